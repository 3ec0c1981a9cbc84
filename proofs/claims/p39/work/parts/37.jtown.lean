set_option maxHeartbeats 4000000 in
set_option maxRecDepth 20000 in
theorem c_X11_takesE (Γ : KT) (t : Nat) (σ : Nat → Int → Int) (bb : Int) (c : Int) (hI : InvJ σ) (hc : 0 ≤ c ∧ c < 60) (hbb : 0 ≤ bb ∧ bb ≤ 500) (hs : bb ≤ σ 69 23 ∧ σ 69 23 ≤ bb + σ 69 13) : Ct Γ mX11_takesE 5 (0, 0) [vR Γ 69, vI c] (113, ρT t, σ) (pI 113 (ρT t) (fun r σ' => ((r = 0 ∨ (r = 1 ∧ σ' 82 c = σ 69 23 ∧ σ' 83 c ≤ bb + 100 ∧ okS (σ' 84) (σ' 82 c) (σ' 83 c - σ' 82 c).toNat ∧ σ 69 23 ≤ σ' 69 23 ∧ σ' 69 23 ≤ bb + σ' 69 13 ∧ σ' 83 c ≤ σ' 69 23))) ∧ (∀ j, j < σ 69 23 → σ' 84 j = σ 84 j) ∧ (∀ j, j ≠ c → σ' 82 j = σ 82 j ∧ σ' 83 j = σ 83 j) ∧ (InvJ σ') ∧ (Fr jcE σ σ'))) := by
  refine Ct.of rfl (Nat.le_of_ble_eq_true rfl) ?_
  show G Γ mX11_takesE 5 (0, 0) _ (0, 0) 0 [some (vR Γ 69), some (vI c), none, none] [] (113, ρT t, σ)
  have hat0 := jv69_13 hI 13 (by omega) (by omega)
  refine g_aload_n (M := mX11_takesE) (pc := 0) dX11_takesE_0 rfl (k := ?_)
  refine g_iconst (M := mX11_takesE) (pc := 1) dX11_takesE_1 (k := ?_)
  refine g_put (M := mX11_takesE) (pc := 2) (ji := 24) (by rfl) fX11_24 kX11_83 dX11_takesE_2 (by omega) (kk := ?_)
  refine g_aload_n (M := mX11_takesE) (pc := 5) dX11_takesE_5 rfl (k := ?_)
  refine g_iconst (M := mX11_takesE) (pc := 6) dX11_takesE_6 (k := ?_)
  refine g_put (M := mX11_takesE) (pc := 7) (ji := 25) (by rfl) fX11_25 kX11_86 dX11_takesE_7 (by omega) (kk := ?_)
  refine g_aload_n (M := mX11_takesE) (pc := 10) dX11_takesE_10 rfl (k := ?_)
  refine g_getr (M := mX11_takesE) (pc := 11) (by rfl) fX11_19 kX11_68 dX11_takesE_11 (by rfl) (kk := ?_)
  refine g_iload_n (M := mX11_takesE) (pc := 14) dX11_takesE_14 rfl (k := ?_)
  refine g_aload_n (M := mX11_takesE) (pc := 15) dX11_takesE_15 rfl (k := ?_)
  refine g_get (M := mX11_takesE) (pc := 16) (ji := 23) (by rfl) fX11_23 kX11_80 dX11_takesE_16 (kk := fun hr16 => ?_)
  simp only [up_same, up_cell, up_slot, ne_eq, not_false_eq_true, Nat.reduceEqDiff, Int.reduceEq, reduceCtorEq, Nat.reduceAdd, Int.reduceAdd, Int.reduceSub] at hr16 ⊢
  have hb16 := jv69_23 hI 23 (by omega) (by omega)
  refine g_iast (M := mX11_takesE) (pc := 19) (by rfl) (by omega) (by omega) (by omega) dX11_takesE_19 (kk := ?_)
  refine g_iconst (M := mX11_takesE) (pc := 20) dX11_takesE_20 (k := ?_)
  refine g_istore_2 (M := mX11_takesE) (pc := 21) dX11_takesE_21 (k := ?_)
  have loop22 : ∀ (N : Nat) (τ22 : Nat → Int → Int) (w : Int), ((101 - τ22 69 13).toNat) < N → ((InvJ τ22) ∧ (Fr jcE σ τ22) ∧ (0 ≤ w ∧ w ≤ 1) ∧ (PS τ22 (σ 69 23) bb w) ∧ (∀ j, j < σ 69 23 → τ22 84 j = σ 84 j) ∧ (τ22 82 c = σ 69 23) ∧ (σ 69 13 ≤ τ22 69 13) ∧ (∀ j, j ≠ c → τ22 82 j = σ 82 j ∧ τ22 83 j = σ 83 j)) → G Γ mX11_takesE 5 (0, 0) (pI 113 (ρT t) (fun r σ' => ((r = 0 ∨ (r = 1 ∧ σ' 82 c = σ 69 23 ∧ σ' 83 c ≤ bb + 100 ∧ okS (σ' 84) (σ' 82 c) (σ' 83 c - σ' 82 c).toNat ∧ σ 69 23 ≤ σ' 69 23 ∧ σ' 69 23 ≤ bb + σ' 69 13 ∧ σ' 83 c ≤ σ' 69 23))) ∧ (∀ j, j < σ 69 23 → σ' 84 j = σ 84 j) ∧ (∀ j, j ≠ c → σ' 82 j = σ 82 j ∧ σ' 83 j = σ 83 j) ∧ (InvJ σ') ∧ (Fr jcE σ σ'))) (0, 0) 22 [some (vR Γ 69), some (vI c), some (vI w), none] [] (113, ρT t, τ22) := by
    intro N
    induction N with
    | zero => intro τ22 w hmu22 hinv22; exact absurd hmu22 (Nat.not_lt_zero _)
    | succ N ih22 =>
      intro τ22 w hmu22 hinv22
      obtain ⟨hI22, hF22, hb22_w, hx22_0, hx22_1, hx22_2, hx22_3, hx22_4⟩ := hinv22
      have hat := jv69_13 hI22 13 (by omega) (by omega)
      have hwt := jv69_24 hI22 24 (by omega) (by omega)
      have hfe := jv69_12 hI22 12 (by omega) (by omega)
      have hpp := hx22_0; obtain ⟨p1, p2, p3, p4, p5, p6⟩ := hpp
      have hnb := nbF_b (τ22 85) (τ22 69 24).toNat
      refine g_aload_n (M := mX11_takesE) (pc := 22) dX11_takesE_22 rfl (k := ?_)
      refine g_cV0I (M := mX11_takesE) (pc := 23) (c_X11_peek Γ t _ hI22) qX11_peek vX11_peek sX11_peek kX11_239 dX11_takesE_23 (kk := ?_)
      rintro r23 _ ⟨hd23, hi23, e⟩; rw [e]; clear e
      have hb23_69 := jv69_12 hI22 12 (by omega) (by omega)
      have hb23_69 := jv69_13 hI22 13 (by omega) (by omega)
      refine g_istore_3 (M := mX11_takesE) (pc := 26) dX11_takesE_26 (k := ?_)
      refine g_iload_n (M := mX11_takesE) (pc := 27) dX11_takesE_27 rfl (k := ?_)
      refine g_if_eq (M := mX11_takesE) (pc := 28) (tgt := 110) (by omega) dX11_takesE_28 (k1 := fun h28 => ?_) (k2 := fun h28 => ?_)
      · skip
        refine g_iload_n (M := mX11_takesE) (pc := 110) dX11_takesE_110 rfl (k := ?_)
        refine g_bipush (M := mX11_takesE) (pc := 111) dX11_takesE_111 (k := ?_)
        refine g_icmp_eq (M := mX11_takesE) (pc := 113) (tgt := 122) (by omega) (by omega) dX11_takesE_113 (k1 := fun h113 => ?_) (k2 := fun h113 => ?_)
        · skip
          refine g_aload_n (M := mX11_takesE) (pc := 122) dX11_takesE_122 rfl (k := ?_)
          refine g_iload_n (M := mX11_takesE) (pc := 123) dX11_takesE_123 rfl (k := ?_)
          refine g_cV1V (M := mX11_takesE) (pc := 124) (c_X11_settle Γ t _ (σ 69 23) bb _ hI22 (by rw [show (0 : Int) = w by omega]; exact hx22_0) (by omega) (by omega)) qX11_settle vX11_settle sX11_settle kX11_267 dX11_takesE_124 (kk := ?_)
          rintro τ124 ⟨hp124, hk124, hw124, hI124, hG124⟩
          have hk124_69_13 := hG124 69 13 rfl
          have hk124_69_12 := hG124 69 12 rfl
          have hk124_69_25 := hG124 69 25 rfl
          have hwt124 := jv69_24 hI124 24 (by omega) (by omega)
          have hpq := hp124; obtain ⟨q1, q2, q3, q4, q5, q6⟩ := hpq
          have hF124 : Fr jcE σ τ124 := by refine Fr.tr ?_ (Fr.mono hG124 sb_jcS_jcE); exact hF22
          refine g_aload_n (M := mX11_takesE) (pc := 127) dX11_takesE_127 rfl (k := ?_)
          refine g_getr (M := mX11_takesE) (pc := 128) (by rfl) fX11_22 kX11_77 dX11_takesE_128 (by rfl) (kk := ?_)
          refine g_aload_n (M := mX11_takesE) (pc := 131) dX11_takesE_131 rfl (k := ?_)
          refine g_get (M := mX11_takesE) (pc := 132) (ji := 24) (by rfl) fX11_24 kX11_83 dX11_takesE_132 (kk := fun hr132 => ?_)
          have hb132 := jv69_24 hI124 24 (by omega) (by omega)
          refine g_iload_n (M := mX11_takesE) (pc := 135) dX11_takesE_135 rfl (k := ?_)
          refine g_iast (M := mX11_takesE) (pc := 136) (by rfl) (by omega) (by omega) (by omega) dX11_takesE_136 (kk := ?_)
          refine g_aload_n (M := mX11_takesE) (pc := 137) dX11_takesE_137 rfl (k := ?_)
          refine g_dupR (M := mX11_takesE) (pc := 138) dX11_takesE_138 (k := ?_)
          refine g_get (M := mX11_takesE) (pc := 139) (ji := 24) (by rfl) fX11_24 kX11_83 dX11_takesE_139 (kk := fun hr139 => ?_)
          simp only [up_same, up_cell, up_slot, ne_eq, not_false_eq_true, Nat.reduceEqDiff, Int.reduceEq, reduceCtorEq, Nat.reduceAdd, Int.reduceAdd, Int.reduceSub] at hr139 ⊢
          refine g_iconst (M := mX11_takesE) (pc := 142) dX11_takesE_142 (k := ?_)
          refine g_iadd (M := mX11_takesE) (pc := 143) dX11_takesE_143 (k := ?_)
          refine g_put (M := mX11_takesE) (pc := 144) (ji := 24) (by rfl) fX11_24 kX11_83 dX11_takesE_144 (by omega) (kk := ?_)
          refine g_iconst (M := mX11_takesE) (pc := 147) dX11_takesE_147 (k := ?_)
          refine g_istore_2 (M := mX11_takesE) (pc := 148) dX11_takesE_148 (k := ?_)
          refine g_aload_n (M := mX11_takesE) (pc := 149) dX11_takesE_149 rfl (k := ?_)
          refine g_dupR (M := mX11_takesE) (pc := 150) dX11_takesE_150 (k := ?_)
          refine g_get (M := mX11_takesE) (pc := 151) (ji := 13) (by rfl) fX11_13 kX11_50 dX11_takesE_151 (kk := fun hr151 => ?_)
          simp only [up_same, up_cell, up_slot, ne_eq, not_false_eq_true, Nat.reduceEqDiff, Int.reduceEq, reduceCtorEq, Nat.reduceAdd, Int.reduceAdd, Int.reduceSub] at hr151 ⊢
          have hb151 := jv69_13 hI124 13 (by omega) (by omega)
          refine g_iconst (M := mX11_takesE) (pc := 154) dX11_takesE_154 (k := ?_)
          refine g_iadd (M := mX11_takesE) (pc := 155) dX11_takesE_155 (k := ?_)
          refine g_put (M := mX11_takesE) (pc := 156) (ji := 13) (by rfl) fX11_13 kX11_50 dX11_takesE_156 (by omega) (kk := ?_)
          refine g_goto (M := mX11_takesE) (pc := 159) (tgt := 22) dX11_takesE_159 (k := ?_)
          refine g_less (leL_s (leL_s (leL_s (leL_n leL_0)))) ?_
          refine ih22 _ _ ?_ ?_
          · (first | omega | (simp only [up_same, up_cell, up_slot, ne_eq, not_false_eq_true, Nat.reduceEqDiff, Int.reduceEq, reduceCtorEq, Nat.reduceAdd, Int.reduceAdd, Int.reduceSub]; omega))
          · skip
            refine ⟨?_, ?_, ?_, ?_, ?_, ?_, ?_, ?_⟩
            · refine jvu69_13 ?_ (by omega) (by omega); refine jvu69_24 ?_ (by omega) (by omega); refine jv_cell ?_ (by rfl); exact hI124
            · refine Fr.up ?_ (by first | rfl | (unfold jcE; simp; try omega)); refine Fr.up ?_ (by first | rfl | (unfold jcE; simp; try omega)); refine Fr.up ?_ (by first | rfl | (unfold jcE; simp; try omega)); exact hF124
            · omega
            · first | exact PS_init (by omega) (by omega) | (rw [show w = 1 by omega]; exact PS_open (by rw [show (1 : Int) = w by omega]; exact hx22_0) (by omega) (by omega)) | exact hps97 | exact PS_join hp124 (by omega) (by omega) | (rw [show w = 0 by omega]; exact hp226)
            · intro j hj; first | (simp only [up_same, up_cell, up_slot, ne_eq, not_false_eq_true, Nat.reduceEqDiff, Int.reduceEq, reduceCtorEq, Nat.reduceAdd, Int.reduceAdd, Int.reduceSub]; done) | (simp only [up_same, up_cell, up_slot, ne_eq, not_false_eq_true, Nat.reduceEqDiff, Int.reduceEq, reduceCtorEq, Nat.reduceAdd, Int.reduceAdd, Int.reduceSub]; exact hx22_1 j hj) | exact (hk97 j hj).trans (hx22_1 j hj) | (simp only [up_same, up_cell, up_slot, ne_eq, not_false_eq_true, Nat.reduceEqDiff, Int.reduceEq, reduceCtorEq, Nat.reduceAdd, Int.reduceAdd, Int.reduceSub]; exact (hk124 j hj).trans (hx22_1 j hj)) | (rw [hk226 j hj]; (try simp only [up_same, up_cell, up_slot, ne_eq, not_false_eq_true, Nat.reduceEqDiff, Int.reduceEq, reduceCtorEq, Nat.reduceAdd, Int.reduceAdd, Int.reduceSub]); exact (hk165 j hj).trans (hx22_1 j hj)) | (simp only [up_same, up_cell, up_slot, ne_eq, not_false_eq_true, Nat.reduceEqDiff, Int.reduceEq, reduceCtorEq, Nat.reduceAdd, Int.reduceAdd, Int.reduceSub]; exact (hk165 j hj).trans (hx22_1 j hj)) | exact hx22_1 j hj
            · first | (simp only [up_same, up_cell, up_slot, ne_eq, not_false_eq_true, Nat.reduceEqDiff, Int.reduceEq, reduceCtorEq, Nat.reduceAdd, Int.reduceAdd, Int.reduceSub]; done) | (simp only [up_same, up_cell, up_slot, ne_eq, not_false_eq_true, Nat.reduceEqDiff, Int.reduceEq, reduceCtorEq, Nat.reduceAdd, Int.reduceAdd, Int.reduceSub]; exact hx22_2) | (rw [hG97 82 c rfl]; exact hx22_2) | (simp only [up_same, up_cell, up_slot, ne_eq, not_false_eq_true, Nat.reduceEqDiff, Int.reduceEq, reduceCtorEq, Nat.reduceAdd, Int.reduceAdd, Int.reduceSub]; rw [hG124 82 c rfl]; exact hx22_2) | (rw [hG226 82 c rfl]; simp only [up_same, up_cell, up_slot, ne_eq, not_false_eq_true, Nat.reduceEqDiff, Int.reduceEq, reduceCtorEq, Nat.reduceAdd, Int.reduceAdd, Int.reduceSub]; rw [hG165 82 c rfl]; exact hx22_2) | (rw [hG226 82 c rfl]; rw [hG165 82 c rfl]; exact hx22_2) | (simp only [up_same, up_cell, up_slot, ne_eq, not_false_eq_true, Nat.reduceEqDiff, Int.reduceEq, reduceCtorEq, Nat.reduceAdd, Int.reduceAdd, Int.reduceSub]; rw [hG165 82 c rfl]; exact hx22_2) | exact hx22_2
            · first | omega | (simp only [up_same, up_cell, up_slot, ne_eq, not_false_eq_true, Nat.reduceEqDiff, Int.reduceEq, reduceCtorEq, Nat.reduceAdd, Int.reduceAdd, Int.reduceSub]; omega)
            · intro j hj; exact ⟨by first | (simp only [up_same, up_cell, up_slot, ne_eq, not_false_eq_true, Nat.reduceEqDiff, Int.reduceEq, reduceCtorEq, Nat.reduceAdd, Int.reduceAdd, Int.reduceSub, hj]; done) | (simp only [up_same, up_cell, up_slot, ne_eq, not_false_eq_true, Nat.reduceEqDiff, Int.reduceEq, reduceCtorEq, Nat.reduceAdd, Int.reduceAdd, Int.reduceSub, hj]; exact (hx22_4 j hj).1) | (rw [hG97 82 j rfl]; exact (hx22_4 j hj).1) | (simp only [up_same, up_cell, up_slot, ne_eq, not_false_eq_true, Nat.reduceEqDiff, Int.reduceEq, reduceCtorEq, Nat.reduceAdd, Int.reduceAdd, Int.reduceSub, hj]; rw [hG124 82 j rfl]; exact (hx22_4 j hj).1) | (rw [hG226 82 j rfl]; simp only [up_same, up_cell, up_slot, ne_eq, not_false_eq_true, Nat.reduceEqDiff, Int.reduceEq, reduceCtorEq, Nat.reduceAdd, Int.reduceAdd, Int.reduceSub, hj]; rw [hG165 82 j rfl]; exact (hx22_4 j hj).1) | (rw [hG226 82 j rfl]; rw [hG165 82 j rfl]; exact (hx22_4 j hj).1) | (simp only [up_same, up_cell, up_slot, ne_eq, not_false_eq_true, Nat.reduceEqDiff, Int.reduceEq, reduceCtorEq, Nat.reduceAdd, Int.reduceAdd, Int.reduceSub, hj]; rw [hG165 82 j rfl]; exact (hx22_4 j hj).1) | exact (hx22_4 j hj).1, by first | (simp only [up_same, up_cell, up_slot, ne_eq, not_false_eq_true, Nat.reduceEqDiff, Int.reduceEq, reduceCtorEq, Nat.reduceAdd, Int.reduceAdd, Int.reduceSub, hj]; done) | (simp only [up_same, up_cell, up_slot, ne_eq, not_false_eq_true, Nat.reduceEqDiff, Int.reduceEq, reduceCtorEq, Nat.reduceAdd, Int.reduceAdd, Int.reduceSub, hj]; exact (hx22_4 j hj).2) | (rw [hG97 83 j rfl]; exact (hx22_4 j hj).2) | (simp only [up_same, up_cell, up_slot, ne_eq, not_false_eq_true, Nat.reduceEqDiff, Int.reduceEq, reduceCtorEq, Nat.reduceAdd, Int.reduceAdd, Int.reduceSub, hj]; rw [hG124 83 j rfl]; exact (hx22_4 j hj).2) | (rw [hG226 83 j rfl]; simp only [up_same, up_cell, up_slot, ne_eq, not_false_eq_true, Nat.reduceEqDiff, Int.reduceEq, reduceCtorEq, Nat.reduceAdd, Int.reduceAdd, Int.reduceSub, hj]; rw [hG165 83 j rfl]; exact (hx22_4 j hj).2) | (rw [hG226 83 j rfl]; rw [hG165 83 j rfl]; exact (hx22_4 j hj).2) | (simp only [up_same, up_cell, up_slot, ne_eq, not_false_eq_true, Nat.reduceEqDiff, Int.reduceEq, reduceCtorEq, Nat.reduceAdd, Int.reduceAdd, Int.reduceSub, hj]; rw [hG165 83 j rfl]; exact (hx22_4 j hj).2) | exact (hx22_4 j hj).2⟩
        · skip
          refine g_iload_n (M := mX11_takesE) (pc := 116) dX11_takesE_116 rfl (k := ?_)
          refine g_bipush (M := mX11_takesE) (pc := 117) dX11_takesE_117 (k := ?_)
          refine g_icmp_ne (M := mX11_takesE) (pc := 119) (tgt := 162) (by omega) (by omega) dX11_takesE_119 (k1 := fun h119 => ?_) (k2 := fun h119 => ?_)
          · skip
            refine g_aload_n (M := mX11_takesE) (pc := 162) dX11_takesE_162 rfl (k := ?_)
            refine g_bipush (M := mX11_takesE) (pc := 163) dX11_takesE_163 (k := ?_)
            refine g_cV1V (M := mX11_takesE) (pc := 165) (c_X11_settle Γ t _ (σ 69 23) bb _ hI22 (by rw [show (0 : Int) = w by omega]; exact hx22_0) (by omega) (by omega)) qX11_settle vX11_settle sX11_settle kX11_267 dX11_takesE_165 (kk := ?_)
            rintro τ165 ⟨hp165, hk165, hw165, hI165, hG165⟩
            have hk165_69_13 := hG165 69 13 rfl
            have hk165_69_12 := hG165 69 12 rfl
            have hk165_69_25 := hG165 69 25 rfl
            have hwt165 := jv69_24 hI165 24 (by omega) (by omega)
            have hpq := hp165; obtain ⟨q1, q2, q3, q4, q5, q6⟩ := hpq
            have hnb165 := nbF_b (τ165 85) (τ165 69 24).toNat
            have hF165 : Fr jcE σ τ165 := by refine Fr.tr ?_ (Fr.mono hG165 sb_jcS_jcE); exact hF22
            refine g_aload_n (M := mX11_takesE) (pc := 168) dX11_takesE_168 rfl (k := ?_)
            refine g_getr (M := mX11_takesE) (pc := 169) (by rfl) fX11_20 kX11_71 dX11_takesE_169 (by rfl) (kk := ?_)
            refine g_iload_n (M := mX11_takesE) (pc := 172) dX11_takesE_172 rfl (k := ?_)
            refine g_aload_n (M := mX11_takesE) (pc := 173) dX11_takesE_173 rfl (k := ?_)
            refine g_get (M := mX11_takesE) (pc := 174) (ji := 23) (by rfl) fX11_23 kX11_80 dX11_takesE_174 (kk := fun hr174 => ?_)
            have hb174 := jv69_23 hI165 23 (by omega) (by omega)
            refine g_iast (M := mX11_takesE) (pc := 177) (by rfl) (by omega) (by omega) (by omega) dX11_takesE_177 (kk := ?_)
            refine g_aload_n (M := mX11_takesE) (pc := 178) dX11_takesE_178 rfl (k := ?_)
            refine g_get (M := mX11_takesE) (pc := 179) (ji := 24) (by rfl) fX11_24 kX11_83 dX11_takesE_179 (kk := fun hr179 => ?_)
            simp only [up_same, up_cell, up_slot, ne_eq, not_false_eq_true, Nat.reduceEqDiff, Int.reduceEq, reduceCtorEq, Nat.reduceAdd, Int.reduceAdd, Int.reduceSub] at hr179 ⊢
            have hb179 := jv69_24 hI165 24 (by omega) (by omega)
            refine g_if_ne (M := mX11_takesE) (pc := 182) (tgt := 187) (by omega) dX11_takesE_182 (k1 := fun h182 => ?_) (k2 := fun h182 => ?_)
            · skip
              refine g_iload_n (M := mX11_takesE) (pc := 187) dX11_takesE_187 rfl (k := ?_)
              refine g_bipush (M := mX11_takesE) (pc := 188) dX11_takesE_188 (k := ?_)
              refine g_icmp_eq (M := mX11_takesE) (pc := 190) (tgt := 195) (by omega) (by omega) dX11_takesE_190 (k1 := fun h190 => ?_) (k2 := fun h190 => ?_)
              · skip
                refine g_aload_n (M := mX11_takesE) (pc := 195) dX11_takesE_195 rfl (k := ?_)
                refine g_dupR (M := mX11_takesE) (pc := 196) dX11_takesE_196 (k := ?_)
                refine g_get (M := mX11_takesE) (pc := 197) (ji := 24) (by rfl) fX11_24 kX11_83 dX11_takesE_197 (kk := fun hr197 => ?_)
                simp only [up_same, up_cell, up_slot, ne_eq, not_false_eq_true, Nat.reduceEqDiff, Int.reduceEq, reduceCtorEq, Nat.reduceAdd, Int.reduceAdd, Int.reduceSub] at hr197 ⊢
                refine g_iconst (M := mX11_takesE) (pc := 200) dX11_takesE_200 (k := ?_)
                refine g_isub (M := mX11_takesE) (pc := 201) dX11_takesE_201 (k := ?_)
                refine g_put (M := mX11_takesE) (pc := 202) (ji := 24) (by rfl) fX11_24 kX11_83 dX11_takesE_202 (by omega) (kk := ?_)
                refine g_aload_n (M := mX11_takesE) (pc := 205) dX11_takesE_205 rfl (k := ?_)
                refine g_dupR (M := mX11_takesE) (pc := 206) dX11_takesE_206 (k := ?_)
                refine g_get (M := mX11_takesE) (pc := 207) (ji := 25) (by rfl) fX11_25 kX11_86 dX11_takesE_207 (kk := fun hr207 => ?_)
                simp only [up_same, up_cell, up_slot, ne_eq, not_false_eq_true, Nat.reduceEqDiff, Int.reduceEq, reduceCtorEq, Nat.reduceAdd, Int.reduceAdd, Int.reduceSub] at hr207 ⊢
                refine g_iconst (M := mX11_takesE) (pc := 210) dX11_takesE_210 (k := ?_)
                refine g_isub (M := mX11_takesE) (pc := 211) dX11_takesE_211 (k := ?_)
                refine g_put (M := mX11_takesE) (pc := 212) (ji := 25) (by rfl) fX11_25 kX11_86 dX11_takesE_212 (by omega) (kk := ?_)
                refine g_aload_n (M := mX11_takesE) (pc := 215) dX11_takesE_215 rfl (k := ?_)
                refine g_dupR (M := mX11_takesE) (pc := 216) dX11_takesE_216 (k := ?_)
                refine g_get (M := mX11_takesE) (pc := 217) (ji := 13) (by rfl) fX11_13 kX11_50 dX11_takesE_217 (kk := fun hr217 => ?_)
                simp only [up_same, up_cell, up_slot, ne_eq, not_false_eq_true, Nat.reduceEqDiff, Int.reduceEq, reduceCtorEq, Nat.reduceAdd, Int.reduceAdd, Int.reduceSub] at hr217 ⊢
                have hb217 := jv69_13 hI165 13 (by omega) (by omega)
                refine g_iconst (M := mX11_takesE) (pc := 220) dX11_takesE_220 (k := ?_)
                refine g_iadd (M := mX11_takesE) (pc := 221) dX11_takesE_221 (k := ?_)
                refine g_put (M := mX11_takesE) (pc := 222) (ji := 13) (by rfl) fX11_13 kX11_50 dX11_takesE_222 (by omega) (kk := ?_)
                refine g_aload_n (M := mX11_takesE) (pc := 225) dX11_takesE_225 rfl (k := ?_)
                refine g_cV0V (M := mX11_takesE) (pc := 226) (c_X11_whole Γ t _ (σ 69 23) bb (by refine jvu69_13 ?_ (by omega) (by omega); refine jv_free ?_ (by rfl); refine jvu69_24 ?_ (by omega) (by omega); refine jvu83 ?_ (by omega) (by omega); exact hI165) (PS_close hp165 (by omega) (by omega)) (by first | omega | (simp only [up_same, up_cell, up_slot, ne_eq, not_false_eq_true, Nat.reduceEqDiff, Int.reduceEq, reduceCtorEq, Nat.reduceAdd, Int.reduceAdd, Int.reduceSub]; done) | (simp only [up_same, up_cell, up_slot, ne_eq, not_false_eq_true, Nat.reduceEqDiff, Int.reduceEq, reduceCtorEq, Nat.reduceAdd, Int.reduceAdd, Int.reduceSub]; omega))) qX11_whole vX11_whole sX11_whole kX11_261 dX11_takesE_226 (kk := ?_)
                rintro τ226 ⟨hp226, hk226, hI226, hG226⟩
                try simp only [up_same, up_cell, up_slot, ne_eq, not_false_eq_true, Nat.reduceEqDiff, Int.reduceEq, reduceCtorEq, Nat.reduceAdd, Int.reduceAdd, Int.reduceSub] at hp226 hk226
                have hk226_69_13 := hG226 69 13 rfl
                simp only [up_same, up_cell, up_slot, ne_eq, not_false_eq_true, Nat.reduceEqDiff, Int.reduceEq, reduceCtorEq, Nat.reduceAdd, Int.reduceAdd, Int.reduceSub] at hk226_69_13
                have hF226 : Fr jcE σ τ226 := by refine Fr.tr ?_ (Fr.mono hG226 sb_jcW_jcE); refine Fr.up ?_ (by first | rfl | (unfold jcE; simp; try omega)); refine Fr.up ?_ (by first | rfl | (unfold jcE; simp; try omega)); refine Fr.up ?_ (by first | rfl | (unfold jcE; simp; try omega)); refine Fr.up ?_ (by first | rfl | (unfold jcE; simp; try omega)); exact hF165
                refine g_goto (M := mX11_takesE) (pc := 229) (tgt := 22) dX11_takesE_229 (k := ?_)
                refine g_less (leL_s (leL_s (leL_s (leL_n leL_0)))) ?_
                refine ih22 _ _ ?_ ?_
                · (first | omega | (simp only [up_same, up_cell, up_slot, ne_eq, not_false_eq_true, Nat.reduceEqDiff, Int.reduceEq, reduceCtorEq, Nat.reduceAdd, Int.reduceAdd, Int.reduceSub]; omega))
                · skip
                  refine ⟨?_, ?_, ?_, ?_, ?_, ?_, ?_, ?_⟩
                  · exact hI226
                  · exact hF226
                  · omega
                  · first | exact PS_init (by omega) (by omega) | (rw [show w = 1 by omega]; exact PS_open (by rw [show (1 : Int) = w by omega]; exact hx22_0) (by omega) (by omega)) | exact hps97 | exact PS_join hp124 (by omega) (by omega) | (rw [show w = 0 by omega]; exact hp226)
                  · intro j hj; first | (simp only [up_same, up_cell, up_slot, ne_eq, not_false_eq_true, Nat.reduceEqDiff, Int.reduceEq, reduceCtorEq, Nat.reduceAdd, Int.reduceAdd, Int.reduceSub]; done) | (simp only [up_same, up_cell, up_slot, ne_eq, not_false_eq_true, Nat.reduceEqDiff, Int.reduceEq, reduceCtorEq, Nat.reduceAdd, Int.reduceAdd, Int.reduceSub]; exact hx22_1 j hj) | exact (hk97 j hj).trans (hx22_1 j hj) | (simp only [up_same, up_cell, up_slot, ne_eq, not_false_eq_true, Nat.reduceEqDiff, Int.reduceEq, reduceCtorEq, Nat.reduceAdd, Int.reduceAdd, Int.reduceSub]; exact (hk124 j hj).trans (hx22_1 j hj)) | (rw [hk226 j hj]; (try simp only [up_same, up_cell, up_slot, ne_eq, not_false_eq_true, Nat.reduceEqDiff, Int.reduceEq, reduceCtorEq, Nat.reduceAdd, Int.reduceAdd, Int.reduceSub]); exact (hk165 j hj).trans (hx22_1 j hj)) | (simp only [up_same, up_cell, up_slot, ne_eq, not_false_eq_true, Nat.reduceEqDiff, Int.reduceEq, reduceCtorEq, Nat.reduceAdd, Int.reduceAdd, Int.reduceSub]; exact (hk165 j hj).trans (hx22_1 j hj)) | exact hx22_1 j hj
                  · first | (simp only [up_same, up_cell, up_slot, ne_eq, not_false_eq_true, Nat.reduceEqDiff, Int.reduceEq, reduceCtorEq, Nat.reduceAdd, Int.reduceAdd, Int.reduceSub]; done) | (simp only [up_same, up_cell, up_slot, ne_eq, not_false_eq_true, Nat.reduceEqDiff, Int.reduceEq, reduceCtorEq, Nat.reduceAdd, Int.reduceAdd, Int.reduceSub]; exact hx22_2) | (rw [hG97 82 c rfl]; exact hx22_2) | (simp only [up_same, up_cell, up_slot, ne_eq, not_false_eq_true, Nat.reduceEqDiff, Int.reduceEq, reduceCtorEq, Nat.reduceAdd, Int.reduceAdd, Int.reduceSub]; rw [hG124 82 c rfl]; exact hx22_2) | (rw [hG226 82 c rfl]; simp only [up_same, up_cell, up_slot, ne_eq, not_false_eq_true, Nat.reduceEqDiff, Int.reduceEq, reduceCtorEq, Nat.reduceAdd, Int.reduceAdd, Int.reduceSub]; rw [hG165 82 c rfl]; exact hx22_2) | (rw [hG226 82 c rfl]; rw [hG165 82 c rfl]; exact hx22_2) | (simp only [up_same, up_cell, up_slot, ne_eq, not_false_eq_true, Nat.reduceEqDiff, Int.reduceEq, reduceCtorEq, Nat.reduceAdd, Int.reduceAdd, Int.reduceSub]; rw [hG165 82 c rfl]; exact hx22_2) | exact hx22_2
                  · first | omega | (simp only [up_same, up_cell, up_slot, ne_eq, not_false_eq_true, Nat.reduceEqDiff, Int.reduceEq, reduceCtorEq, Nat.reduceAdd, Int.reduceAdd, Int.reduceSub]; omega)
                  · intro j hj; exact ⟨by first | (simp only [up_same, up_cell, up_slot, ne_eq, not_false_eq_true, Nat.reduceEqDiff, Int.reduceEq, reduceCtorEq, Nat.reduceAdd, Int.reduceAdd, Int.reduceSub, hj]; done) | (simp only [up_same, up_cell, up_slot, ne_eq, not_false_eq_true, Nat.reduceEqDiff, Int.reduceEq, reduceCtorEq, Nat.reduceAdd, Int.reduceAdd, Int.reduceSub, hj]; exact (hx22_4 j hj).1) | (rw [hG97 82 j rfl]; exact (hx22_4 j hj).1) | (simp only [up_same, up_cell, up_slot, ne_eq, not_false_eq_true, Nat.reduceEqDiff, Int.reduceEq, reduceCtorEq, Nat.reduceAdd, Int.reduceAdd, Int.reduceSub, hj]; rw [hG124 82 j rfl]; exact (hx22_4 j hj).1) | (rw [hG226 82 j rfl]; simp only [up_same, up_cell, up_slot, ne_eq, not_false_eq_true, Nat.reduceEqDiff, Int.reduceEq, reduceCtorEq, Nat.reduceAdd, Int.reduceAdd, Int.reduceSub, hj]; rw [hG165 82 j rfl]; exact (hx22_4 j hj).1) | (rw [hG226 82 j rfl]; rw [hG165 82 j rfl]; exact (hx22_4 j hj).1) | (simp only [up_same, up_cell, up_slot, ne_eq, not_false_eq_true, Nat.reduceEqDiff, Int.reduceEq, reduceCtorEq, Nat.reduceAdd, Int.reduceAdd, Int.reduceSub, hj]; rw [hG165 82 j rfl]; exact (hx22_4 j hj).1) | exact (hx22_4 j hj).1, by first | (simp only [up_same, up_cell, up_slot, ne_eq, not_false_eq_true, Nat.reduceEqDiff, Int.reduceEq, reduceCtorEq, Nat.reduceAdd, Int.reduceAdd, Int.reduceSub, hj]; done) | (simp only [up_same, up_cell, up_slot, ne_eq, not_false_eq_true, Nat.reduceEqDiff, Int.reduceEq, reduceCtorEq, Nat.reduceAdd, Int.reduceAdd, Int.reduceSub, hj]; exact (hx22_4 j hj).2) | (rw [hG97 83 j rfl]; exact (hx22_4 j hj).2) | (simp only [up_same, up_cell, up_slot, ne_eq, not_false_eq_true, Nat.reduceEqDiff, Int.reduceEq, reduceCtorEq, Nat.reduceAdd, Int.reduceAdd, Int.reduceSub, hj]; rw [hG124 83 j rfl]; exact (hx22_4 j hj).2) | (rw [hG226 83 j rfl]; simp only [up_same, up_cell, up_slot, ne_eq, not_false_eq_true, Nat.reduceEqDiff, Int.reduceEq, reduceCtorEq, Nat.reduceAdd, Int.reduceAdd, Int.reduceSub, hj]; rw [hG165 83 j rfl]; exact (hx22_4 j hj).2) | (rw [hG226 83 j rfl]; rw [hG165 83 j rfl]; exact (hx22_4 j hj).2) | (simp only [up_same, up_cell, up_slot, ne_eq, not_false_eq_true, Nat.reduceEqDiff, Int.reduceEq, reduceCtorEq, Nat.reduceAdd, Int.reduceAdd, Int.reduceSub, hj]; rw [hG165 83 j rfl]; exact (hx22_4 j hj).2) | exact (hx22_4 j hj).2⟩
              · skip
                refine g_iconst (M := mX11_takesE) (pc := 193) dX11_takesE_193 (k := ?_)
                refine g_zret (M := mX11_takesE) (pc := 194) (by first | omega | (unfold b2; split <;> omega)) rfl dX11_takesE_194 rfl ⟨_, _, rfl, rfl, ?_⟩
                refine ⟨?_, ?_, ?_, ?_, ?_⟩
                · first | exact Or.inl rfl | exact Or.inr ⟨rfl, hE1, hE2, hE3, hE4, hE5, hE6⟩
                · intro j hj; first | (simp only [up_same, up_cell, up_slot, ne_eq, not_false_eq_true, Nat.reduceEqDiff, Int.reduceEq, reduceCtorEq, Nat.reduceAdd, Int.reduceAdd, Int.reduceSub]; done) | (simp only [up_same, up_cell, up_slot, ne_eq, not_false_eq_true, Nat.reduceEqDiff, Int.reduceEq, reduceCtorEq, Nat.reduceAdd, Int.reduceAdd, Int.reduceSub]; exact hx22_1 j hj) | exact (hk97 j hj).trans (hx22_1 j hj) | (simp only [up_same, up_cell, up_slot, ne_eq, not_false_eq_true, Nat.reduceEqDiff, Int.reduceEq, reduceCtorEq, Nat.reduceAdd, Int.reduceAdd, Int.reduceSub]; exact (hk124 j hj).trans (hx22_1 j hj)) | (rw [hk226 j hj]; (try simp only [up_same, up_cell, up_slot, ne_eq, not_false_eq_true, Nat.reduceEqDiff, Int.reduceEq, reduceCtorEq, Nat.reduceAdd, Int.reduceAdd, Int.reduceSub]); exact (hk165 j hj).trans (hx22_1 j hj)) | (simp only [up_same, up_cell, up_slot, ne_eq, not_false_eq_true, Nat.reduceEqDiff, Int.reduceEq, reduceCtorEq, Nat.reduceAdd, Int.reduceAdd, Int.reduceSub]; exact (hk165 j hj).trans (hx22_1 j hj)) | exact hx22_1 j hj
                · intro j hj; exact ⟨by first | (simp only [up_same, up_cell, up_slot, ne_eq, not_false_eq_true, Nat.reduceEqDiff, Int.reduceEq, reduceCtorEq, Nat.reduceAdd, Int.reduceAdd, Int.reduceSub, hj]; done) | (simp only [up_same, up_cell, up_slot, ne_eq, not_false_eq_true, Nat.reduceEqDiff, Int.reduceEq, reduceCtorEq, Nat.reduceAdd, Int.reduceAdd, Int.reduceSub, hj]; exact (hx22_4 j hj).1) | (rw [hG97 82 j rfl]; exact (hx22_4 j hj).1) | (simp only [up_same, up_cell, up_slot, ne_eq, not_false_eq_true, Nat.reduceEqDiff, Int.reduceEq, reduceCtorEq, Nat.reduceAdd, Int.reduceAdd, Int.reduceSub, hj]; rw [hG124 82 j rfl]; exact (hx22_4 j hj).1) | (rw [hG226 82 j rfl]; simp only [up_same, up_cell, up_slot, ne_eq, not_false_eq_true, Nat.reduceEqDiff, Int.reduceEq, reduceCtorEq, Nat.reduceAdd, Int.reduceAdd, Int.reduceSub, hj]; rw [hG165 82 j rfl]; exact (hx22_4 j hj).1) | (rw [hG226 82 j rfl]; rw [hG165 82 j rfl]; exact (hx22_4 j hj).1) | (simp only [up_same, up_cell, up_slot, ne_eq, not_false_eq_true, Nat.reduceEqDiff, Int.reduceEq, reduceCtorEq, Nat.reduceAdd, Int.reduceAdd, Int.reduceSub, hj]; rw [hG165 82 j rfl]; exact (hx22_4 j hj).1) | exact (hx22_4 j hj).1, by first | (simp only [up_same, up_cell, up_slot, ne_eq, not_false_eq_true, Nat.reduceEqDiff, Int.reduceEq, reduceCtorEq, Nat.reduceAdd, Int.reduceAdd, Int.reduceSub, hj]; done) | (simp only [up_same, up_cell, up_slot, ne_eq, not_false_eq_true, Nat.reduceEqDiff, Int.reduceEq, reduceCtorEq, Nat.reduceAdd, Int.reduceAdd, Int.reduceSub, hj]; exact (hx22_4 j hj).2) | (rw [hG97 83 j rfl]; exact (hx22_4 j hj).2) | (simp only [up_same, up_cell, up_slot, ne_eq, not_false_eq_true, Nat.reduceEqDiff, Int.reduceEq, reduceCtorEq, Nat.reduceAdd, Int.reduceAdd, Int.reduceSub, hj]; rw [hG124 83 j rfl]; exact (hx22_4 j hj).2) | (rw [hG226 83 j rfl]; simp only [up_same, up_cell, up_slot, ne_eq, not_false_eq_true, Nat.reduceEqDiff, Int.reduceEq, reduceCtorEq, Nat.reduceAdd, Int.reduceAdd, Int.reduceSub, hj]; rw [hG165 83 j rfl]; exact (hx22_4 j hj).2) | (rw [hG226 83 j rfl]; rw [hG165 83 j rfl]; exact (hx22_4 j hj).2) | (simp only [up_same, up_cell, up_slot, ne_eq, not_false_eq_true, Nat.reduceEqDiff, Int.reduceEq, reduceCtorEq, Nat.reduceAdd, Int.reduceAdd, Int.reduceSub, hj]; rw [hG165 83 j rfl]; exact (hx22_4 j hj).2) | exact (hx22_4 j hj).2⟩
                · refine jvu83 ?_ (by omega) (by omega); exact hI165
                · refine Fr.up ?_ (by first | rfl | (unfold jcE; simp; try omega)); exact hF165
            · skip
              have e24 : τ165 69 24 = 0 := by omega
              have hE1 : up τ165 83 c (τ165 69 23) 82 c = σ 69 23 := by rw [up_cell (by decide), hG165 82 c rfl]; exact hx22_2
              have hE2 : up τ165 83 c (τ165 69 23) 83 c ≤ bb + 100 := by rw [up_same]; omega
              have hE3 : okS (up τ165 83 c (τ165 69 23) 84) (up τ165 83 c (τ165 69 23) 82 c) (up τ165 83 c (τ165 69 23) 83 c - up τ165 83 c (τ165 69 23) 82 c).toNat := by
                rw [hE1, up_same]; exact okS_cong (fun i _ => up_cell (by decide)) q4
              have hE4 : σ 69 23 ≤ up τ165 83 c (τ165 69 23) 69 23 := by rw [up_cell (by decide)]; omega
              have hE5 : up τ165 83 c (τ165 69 23) 69 23 ≤ bb + up τ165 83 c (τ165 69 23) 69 13 := by rw [up_cell (by decide), up_cell (by decide)]; omega
              have hE6 : up τ165 83 c (τ165 69 23) 83 c ≤ up τ165 83 c (τ165 69 23) 69 23 := by rw [up_same, up_cell (by decide)]; omega
              refine g_iconst (M := mX11_takesE) (pc := 185) dX11_takesE_185 (k := ?_)
              refine g_zret (M := mX11_takesE) (pc := 186) (by first | omega | (unfold b2; split <;> omega)) rfl dX11_takesE_186 rfl ⟨_, _, rfl, rfl, ?_⟩
              refine ⟨?_, ?_, ?_, ?_, ?_⟩
              · first | exact Or.inl rfl | exact Or.inr ⟨rfl, hE1, hE2, hE3, hE4, hE5, hE6⟩
              · intro j hj; first | (simp only [up_same, up_cell, up_slot, ne_eq, not_false_eq_true, Nat.reduceEqDiff, Int.reduceEq, reduceCtorEq, Nat.reduceAdd, Int.reduceAdd, Int.reduceSub]; done) | (simp only [up_same, up_cell, up_slot, ne_eq, not_false_eq_true, Nat.reduceEqDiff, Int.reduceEq, reduceCtorEq, Nat.reduceAdd, Int.reduceAdd, Int.reduceSub]; exact hx22_1 j hj) | exact (hk97 j hj).trans (hx22_1 j hj) | (simp only [up_same, up_cell, up_slot, ne_eq, not_false_eq_true, Nat.reduceEqDiff, Int.reduceEq, reduceCtorEq, Nat.reduceAdd, Int.reduceAdd, Int.reduceSub]; exact (hk124 j hj).trans (hx22_1 j hj)) | (rw [hk226 j hj]; (try simp only [up_same, up_cell, up_slot, ne_eq, not_false_eq_true, Nat.reduceEqDiff, Int.reduceEq, reduceCtorEq, Nat.reduceAdd, Int.reduceAdd, Int.reduceSub]); exact (hk165 j hj).trans (hx22_1 j hj)) | (simp only [up_same, up_cell, up_slot, ne_eq, not_false_eq_true, Nat.reduceEqDiff, Int.reduceEq, reduceCtorEq, Nat.reduceAdd, Int.reduceAdd, Int.reduceSub]; exact (hk165 j hj).trans (hx22_1 j hj)) | exact hx22_1 j hj
              · intro j hj; exact ⟨by first | (simp only [up_same, up_cell, up_slot, ne_eq, not_false_eq_true, Nat.reduceEqDiff, Int.reduceEq, reduceCtorEq, Nat.reduceAdd, Int.reduceAdd, Int.reduceSub, hj]; done) | (simp only [up_same, up_cell, up_slot, ne_eq, not_false_eq_true, Nat.reduceEqDiff, Int.reduceEq, reduceCtorEq, Nat.reduceAdd, Int.reduceAdd, Int.reduceSub, hj]; exact (hx22_4 j hj).1) | (rw [hG97 82 j rfl]; exact (hx22_4 j hj).1) | (simp only [up_same, up_cell, up_slot, ne_eq, not_false_eq_true, Nat.reduceEqDiff, Int.reduceEq, reduceCtorEq, Nat.reduceAdd, Int.reduceAdd, Int.reduceSub, hj]; rw [hG124 82 j rfl]; exact (hx22_4 j hj).1) | (rw [hG226 82 j rfl]; simp only [up_same, up_cell, up_slot, ne_eq, not_false_eq_true, Nat.reduceEqDiff, Int.reduceEq, reduceCtorEq, Nat.reduceAdd, Int.reduceAdd, Int.reduceSub, hj]; rw [hG165 82 j rfl]; exact (hx22_4 j hj).1) | (rw [hG226 82 j rfl]; rw [hG165 82 j rfl]; exact (hx22_4 j hj).1) | (simp only [up_same, up_cell, up_slot, ne_eq, not_false_eq_true, Nat.reduceEqDiff, Int.reduceEq, reduceCtorEq, Nat.reduceAdd, Int.reduceAdd, Int.reduceSub, hj]; rw [hG165 82 j rfl]; exact (hx22_4 j hj).1) | exact (hx22_4 j hj).1, by first | (simp only [up_same, up_cell, up_slot, ne_eq, not_false_eq_true, Nat.reduceEqDiff, Int.reduceEq, reduceCtorEq, Nat.reduceAdd, Int.reduceAdd, Int.reduceSub, hj]; done) | (simp only [up_same, up_cell, up_slot, ne_eq, not_false_eq_true, Nat.reduceEqDiff, Int.reduceEq, reduceCtorEq, Nat.reduceAdd, Int.reduceAdd, Int.reduceSub, hj]; exact (hx22_4 j hj).2) | (rw [hG97 83 j rfl]; exact (hx22_4 j hj).2) | (simp only [up_same, up_cell, up_slot, ne_eq, not_false_eq_true, Nat.reduceEqDiff, Int.reduceEq, reduceCtorEq, Nat.reduceAdd, Int.reduceAdd, Int.reduceSub, hj]; rw [hG124 83 j rfl]; exact (hx22_4 j hj).2) | (rw [hG226 83 j rfl]; simp only [up_same, up_cell, up_slot, ne_eq, not_false_eq_true, Nat.reduceEqDiff, Int.reduceEq, reduceCtorEq, Nat.reduceAdd, Int.reduceAdd, Int.reduceSub, hj]; rw [hG165 83 j rfl]; exact (hx22_4 j hj).2) | (rw [hG226 83 j rfl]; rw [hG165 83 j rfl]; exact (hx22_4 j hj).2) | (simp only [up_same, up_cell, up_slot, ne_eq, not_false_eq_true, Nat.reduceEqDiff, Int.reduceEq, reduceCtorEq, Nat.reduceAdd, Int.reduceAdd, Int.reduceSub, hj]; rw [hG165 83 j rfl]; exact (hx22_4 j hj).2) | exact (hx22_4 j hj).2⟩
              · refine jvu83 ?_ (by omega) (by omega); exact hI165
              · refine Fr.up ?_ (by first | rfl | (unfold jcE; simp; try omega)); exact hF165
          · skip
            refine g_aload_n (M := mX11_takesE) (pc := 122) dX11_takesE_122 rfl (k := ?_)
            refine g_iload_n (M := mX11_takesE) (pc := 123) dX11_takesE_123 rfl (k := ?_)
            refine g_cV1V (M := mX11_takesE) (pc := 124) (c_X11_settle Γ t _ (σ 69 23) bb _ hI22 (by rw [show (0 : Int) = w by omega]; exact hx22_0) (by omega) (by omega)) qX11_settle vX11_settle sX11_settle kX11_267 dX11_takesE_124 (kk := ?_)
            rintro τ124 ⟨hp124, hk124, hw124, hI124, hG124⟩
            have hk124_69_13 := hG124 69 13 rfl
            have hk124_69_12 := hG124 69 12 rfl
            have hk124_69_25 := hG124 69 25 rfl
            have hwt124 := jv69_24 hI124 24 (by omega) (by omega)
            have hpq := hp124; obtain ⟨q1, q2, q3, q4, q5, q6⟩ := hpq
            have hF124 : Fr jcE σ τ124 := by refine Fr.tr ?_ (Fr.mono hG124 sb_jcS_jcE); exact hF22
            refine g_aload_n (M := mX11_takesE) (pc := 127) dX11_takesE_127 rfl (k := ?_)
            refine g_getr (M := mX11_takesE) (pc := 128) (by rfl) fX11_22 kX11_77 dX11_takesE_128 (by rfl) (kk := ?_)
            refine g_aload_n (M := mX11_takesE) (pc := 131) dX11_takesE_131 rfl (k := ?_)
            refine g_get (M := mX11_takesE) (pc := 132) (ji := 24) (by rfl) fX11_24 kX11_83 dX11_takesE_132 (kk := fun hr132 => ?_)
            have hb132 := jv69_24 hI124 24 (by omega) (by omega)
            refine g_iload_n (M := mX11_takesE) (pc := 135) dX11_takesE_135 rfl (k := ?_)
            refine g_iast (M := mX11_takesE) (pc := 136) (by rfl) (by omega) (by omega) (by omega) dX11_takesE_136 (kk := ?_)
            refine g_aload_n (M := mX11_takesE) (pc := 137) dX11_takesE_137 rfl (k := ?_)
            refine g_dupR (M := mX11_takesE) (pc := 138) dX11_takesE_138 (k := ?_)
            refine g_get (M := mX11_takesE) (pc := 139) (ji := 24) (by rfl) fX11_24 kX11_83 dX11_takesE_139 (kk := fun hr139 => ?_)
            simp only [up_same, up_cell, up_slot, ne_eq, not_false_eq_true, Nat.reduceEqDiff, Int.reduceEq, reduceCtorEq, Nat.reduceAdd, Int.reduceAdd, Int.reduceSub] at hr139 ⊢
            refine g_iconst (M := mX11_takesE) (pc := 142) dX11_takesE_142 (k := ?_)
            refine g_iadd (M := mX11_takesE) (pc := 143) dX11_takesE_143 (k := ?_)
            refine g_put (M := mX11_takesE) (pc := 144) (ji := 24) (by rfl) fX11_24 kX11_83 dX11_takesE_144 (by omega) (kk := ?_)
            refine g_iconst (M := mX11_takesE) (pc := 147) dX11_takesE_147 (k := ?_)
            refine g_istore_2 (M := mX11_takesE) (pc := 148) dX11_takesE_148 (k := ?_)
            refine g_aload_n (M := mX11_takesE) (pc := 149) dX11_takesE_149 rfl (k := ?_)
            refine g_dupR (M := mX11_takesE) (pc := 150) dX11_takesE_150 (k := ?_)
            refine g_get (M := mX11_takesE) (pc := 151) (ji := 13) (by rfl) fX11_13 kX11_50 dX11_takesE_151 (kk := fun hr151 => ?_)
            simp only [up_same, up_cell, up_slot, ne_eq, not_false_eq_true, Nat.reduceEqDiff, Int.reduceEq, reduceCtorEq, Nat.reduceAdd, Int.reduceAdd, Int.reduceSub] at hr151 ⊢
            have hb151 := jv69_13 hI124 13 (by omega) (by omega)
            refine g_iconst (M := mX11_takesE) (pc := 154) dX11_takesE_154 (k := ?_)
            refine g_iadd (M := mX11_takesE) (pc := 155) dX11_takesE_155 (k := ?_)
            refine g_put (M := mX11_takesE) (pc := 156) (ji := 13) (by rfl) fX11_13 kX11_50 dX11_takesE_156 (by omega) (kk := ?_)
            refine g_goto (M := mX11_takesE) (pc := 159) (tgt := 22) dX11_takesE_159 (k := ?_)
            refine g_less (leL_s (leL_s (leL_s (leL_n leL_0)))) ?_
            refine ih22 _ _ ?_ ?_
            · (first | omega | (simp only [up_same, up_cell, up_slot, ne_eq, not_false_eq_true, Nat.reduceEqDiff, Int.reduceEq, reduceCtorEq, Nat.reduceAdd, Int.reduceAdd, Int.reduceSub]; omega))
            · skip
              refine ⟨?_, ?_, ?_, ?_, ?_, ?_, ?_, ?_⟩
              · refine jvu69_13 ?_ (by omega) (by omega); refine jvu69_24 ?_ (by omega) (by omega); refine jv_cell ?_ (by rfl); exact hI124
              · refine Fr.up ?_ (by first | rfl | (unfold jcE; simp; try omega)); refine Fr.up ?_ (by first | rfl | (unfold jcE; simp; try omega)); refine Fr.up ?_ (by first | rfl | (unfold jcE; simp; try omega)); exact hF124
              · omega
              · first | exact PS_init (by omega) (by omega) | (rw [show w = 1 by omega]; exact PS_open (by rw [show (1 : Int) = w by omega]; exact hx22_0) (by omega) (by omega)) | exact hps97 | exact PS_join hp124 (by omega) (by omega) | (rw [show w = 0 by omega]; exact hp226)
              · intro j hj; first | (simp only [up_same, up_cell, up_slot, ne_eq, not_false_eq_true, Nat.reduceEqDiff, Int.reduceEq, reduceCtorEq, Nat.reduceAdd, Int.reduceAdd, Int.reduceSub]; done) | (simp only [up_same, up_cell, up_slot, ne_eq, not_false_eq_true, Nat.reduceEqDiff, Int.reduceEq, reduceCtorEq, Nat.reduceAdd, Int.reduceAdd, Int.reduceSub]; exact hx22_1 j hj) | exact (hk97 j hj).trans (hx22_1 j hj) | (simp only [up_same, up_cell, up_slot, ne_eq, not_false_eq_true, Nat.reduceEqDiff, Int.reduceEq, reduceCtorEq, Nat.reduceAdd, Int.reduceAdd, Int.reduceSub]; exact (hk124 j hj).trans (hx22_1 j hj)) | (rw [hk226 j hj]; (try simp only [up_same, up_cell, up_slot, ne_eq, not_false_eq_true, Nat.reduceEqDiff, Int.reduceEq, reduceCtorEq, Nat.reduceAdd, Int.reduceAdd, Int.reduceSub]); exact (hk165 j hj).trans (hx22_1 j hj)) | (simp only [up_same, up_cell, up_slot, ne_eq, not_false_eq_true, Nat.reduceEqDiff, Int.reduceEq, reduceCtorEq, Nat.reduceAdd, Int.reduceAdd, Int.reduceSub]; exact (hk165 j hj).trans (hx22_1 j hj)) | exact hx22_1 j hj
              · first | (simp only [up_same, up_cell, up_slot, ne_eq, not_false_eq_true, Nat.reduceEqDiff, Int.reduceEq, reduceCtorEq, Nat.reduceAdd, Int.reduceAdd, Int.reduceSub]; done) | (simp only [up_same, up_cell, up_slot, ne_eq, not_false_eq_true, Nat.reduceEqDiff, Int.reduceEq, reduceCtorEq, Nat.reduceAdd, Int.reduceAdd, Int.reduceSub]; exact hx22_2) | (rw [hG97 82 c rfl]; exact hx22_2) | (simp only [up_same, up_cell, up_slot, ne_eq, not_false_eq_true, Nat.reduceEqDiff, Int.reduceEq, reduceCtorEq, Nat.reduceAdd, Int.reduceAdd, Int.reduceSub]; rw [hG124 82 c rfl]; exact hx22_2) | (rw [hG226 82 c rfl]; simp only [up_same, up_cell, up_slot, ne_eq, not_false_eq_true, Nat.reduceEqDiff, Int.reduceEq, reduceCtorEq, Nat.reduceAdd, Int.reduceAdd, Int.reduceSub]; rw [hG165 82 c rfl]; exact hx22_2) | (rw [hG226 82 c rfl]; rw [hG165 82 c rfl]; exact hx22_2) | (simp only [up_same, up_cell, up_slot, ne_eq, not_false_eq_true, Nat.reduceEqDiff, Int.reduceEq, reduceCtorEq, Nat.reduceAdd, Int.reduceAdd, Int.reduceSub]; rw [hG165 82 c rfl]; exact hx22_2) | exact hx22_2
              · first | omega | (simp only [up_same, up_cell, up_slot, ne_eq, not_false_eq_true, Nat.reduceEqDiff, Int.reduceEq, reduceCtorEq, Nat.reduceAdd, Int.reduceAdd, Int.reduceSub]; omega)
              · intro j hj; exact ⟨by first | (simp only [up_same, up_cell, up_slot, ne_eq, not_false_eq_true, Nat.reduceEqDiff, Int.reduceEq, reduceCtorEq, Nat.reduceAdd, Int.reduceAdd, Int.reduceSub, hj]; done) | (simp only [up_same, up_cell, up_slot, ne_eq, not_false_eq_true, Nat.reduceEqDiff, Int.reduceEq, reduceCtorEq, Nat.reduceAdd, Int.reduceAdd, Int.reduceSub, hj]; exact (hx22_4 j hj).1) | (rw [hG97 82 j rfl]; exact (hx22_4 j hj).1) | (simp only [up_same, up_cell, up_slot, ne_eq, not_false_eq_true, Nat.reduceEqDiff, Int.reduceEq, reduceCtorEq, Nat.reduceAdd, Int.reduceAdd, Int.reduceSub, hj]; rw [hG124 82 j rfl]; exact (hx22_4 j hj).1) | (rw [hG226 82 j rfl]; simp only [up_same, up_cell, up_slot, ne_eq, not_false_eq_true, Nat.reduceEqDiff, Int.reduceEq, reduceCtorEq, Nat.reduceAdd, Int.reduceAdd, Int.reduceSub, hj]; rw [hG165 82 j rfl]; exact (hx22_4 j hj).1) | (rw [hG226 82 j rfl]; rw [hG165 82 j rfl]; exact (hx22_4 j hj).1) | (simp only [up_same, up_cell, up_slot, ne_eq, not_false_eq_true, Nat.reduceEqDiff, Int.reduceEq, reduceCtorEq, Nat.reduceAdd, Int.reduceAdd, Int.reduceSub, hj]; rw [hG165 82 j rfl]; exact (hx22_4 j hj).1) | exact (hx22_4 j hj).1, by first | (simp only [up_same, up_cell, up_slot, ne_eq, not_false_eq_true, Nat.reduceEqDiff, Int.reduceEq, reduceCtorEq, Nat.reduceAdd, Int.reduceAdd, Int.reduceSub, hj]; done) | (simp only [up_same, up_cell, up_slot, ne_eq, not_false_eq_true, Nat.reduceEqDiff, Int.reduceEq, reduceCtorEq, Nat.reduceAdd, Int.reduceAdd, Int.reduceSub, hj]; exact (hx22_4 j hj).2) | (rw [hG97 83 j rfl]; exact (hx22_4 j hj).2) | (simp only [up_same, up_cell, up_slot, ne_eq, not_false_eq_true, Nat.reduceEqDiff, Int.reduceEq, reduceCtorEq, Nat.reduceAdd, Int.reduceAdd, Int.reduceSub, hj]; rw [hG124 83 j rfl]; exact (hx22_4 j hj).2) | (rw [hG226 83 j rfl]; simp only [up_same, up_cell, up_slot, ne_eq, not_false_eq_true, Nat.reduceEqDiff, Int.reduceEq, reduceCtorEq, Nat.reduceAdd, Int.reduceAdd, Int.reduceSub, hj]; rw [hG165 83 j rfl]; exact (hx22_4 j hj).2) | (rw [hG226 83 j rfl]; rw [hG165 83 j rfl]; exact (hx22_4 j hj).2) | (simp only [up_same, up_cell, up_slot, ne_eq, not_false_eq_true, Nat.reduceEqDiff, Int.reduceEq, reduceCtorEq, Nat.reduceAdd, Int.reduceAdd, Int.reduceSub, hj]; rw [hG165 83 j rfl]; exact (hx22_4 j hj).2) | exact (hx22_4 j hj).2⟩
      · skip
        refine g_iload_n (M := mX11_takesE) (pc := 31) dX11_takesE_31 rfl (k := ?_)
        refine g_bipush (M := mX11_takesE) (pc := 32) dX11_takesE_32 (k := ?_)
        refine g_icmp_eq (M := mX11_takesE) (pc := 34) (tgt := 43) (by omega) (by omega) dX11_takesE_34 (k1 := fun h34 => ?_) (k2 := fun h34 => ?_)
        · skip
          refine g_aload_n (M := mX11_takesE) (pc := 43) dX11_takesE_43 rfl (k := ?_)
          refine g_get (M := mX11_takesE) (pc := 44) (ji := 25) (by rfl) fX11_25 kX11_86 dX11_takesE_44 (kk := fun hr44 => ?_)
          refine g_iconst (M := mX11_takesE) (pc := 47) dX11_takesE_47 (k := ?_)
          refine g_icmp_ne (M := mX11_takesE) (pc := 48) (tgt := 53) (by omega) (by omega) dX11_takesE_48 (k1 := fun h48 => ?_) (k2 := fun h48 => ?_)
          · skip
            refine g_aload_n (M := mX11_takesE) (pc := 53) dX11_takesE_53 rfl (k := ?_)
            refine g_dupR (M := mX11_takesE) (pc := 54) dX11_takesE_54 (k := ?_)
            refine g_get (M := mX11_takesE) (pc := 55) (ji := 25) (by rfl) fX11_25 kX11_86 dX11_takesE_55 (kk := fun hr55 => ?_)
            refine g_iconst (M := mX11_takesE) (pc := 58) dX11_takesE_58 (k := ?_)
            refine g_iadd (M := mX11_takesE) (pc := 59) dX11_takesE_59 (k := ?_)
            refine g_put (M := mX11_takesE) (pc := 60) (ji := 25) (by rfl) fX11_25 kX11_86 dX11_takesE_60 (by omega) (kk := ?_)
            refine g_aload_n (M := mX11_takesE) (pc := 63) dX11_takesE_63 rfl (k := ?_)
            refine g_getr (M := mX11_takesE) (pc := 64) (by rfl) fX11_22 kX11_77 dX11_takesE_64 (by rfl) (kk := ?_)
            refine g_aload_n (M := mX11_takesE) (pc := 67) dX11_takesE_67 rfl (k := ?_)
            refine g_get (M := mX11_takesE) (pc := 68) (ji := 24) (by rfl) fX11_24 kX11_83 dX11_takesE_68 (kk := fun hr68 => ?_)
            simp only [up_same, up_cell, up_slot, ne_eq, not_false_eq_true, Nat.reduceEqDiff, Int.reduceEq, reduceCtorEq, Nat.reduceAdd, Int.reduceAdd, Int.reduceSub] at hr68 ⊢
            have hb68 := jv69_24 hI22 24 (by omega) (by omega)
            refine g_iload_n (M := mX11_takesE) (pc := 71) dX11_takesE_71 rfl (k := ?_)
            refine g_iast (M := mX11_takesE) (pc := 72) (by rfl) (by omega) (by omega) (by omega) dX11_takesE_72 (kk := ?_)
            refine g_aload_n (M := mX11_takesE) (pc := 73) dX11_takesE_73 rfl (k := ?_)
            refine g_dupR (M := mX11_takesE) (pc := 74) dX11_takesE_74 (k := ?_)
            refine g_get (M := mX11_takesE) (pc := 75) (ji := 24) (by rfl) fX11_24 kX11_83 dX11_takesE_75 (kk := fun hr75 => ?_)
            simp only [up_same, up_cell, up_slot, ne_eq, not_false_eq_true, Nat.reduceEqDiff, Int.reduceEq, reduceCtorEq, Nat.reduceAdd, Int.reduceAdd, Int.reduceSub] at hr75 ⊢
            refine g_iconst (M := mX11_takesE) (pc := 78) dX11_takesE_78 (k := ?_)
            refine g_iadd (M := mX11_takesE) (pc := 79) dX11_takesE_79 (k := ?_)
            refine g_put (M := mX11_takesE) (pc := 80) (ji := 24) (by rfl) fX11_24 kX11_83 dX11_takesE_80 (by omega) (kk := ?_)
            refine g_aload_n (M := mX11_takesE) (pc := 83) dX11_takesE_83 rfl (k := ?_)
            refine g_dupR (M := mX11_takesE) (pc := 84) dX11_takesE_84 (k := ?_)
            refine g_get (M := mX11_takesE) (pc := 85) (ji := 13) (by rfl) fX11_13 kX11_50 dX11_takesE_85 (kk := fun hr85 => ?_)
            simp only [up_same, up_cell, up_slot, ne_eq, not_false_eq_true, Nat.reduceEqDiff, Int.reduceEq, reduceCtorEq, Nat.reduceAdd, Int.reduceAdd, Int.reduceSub] at hr85 ⊢
            refine g_iconst (M := mX11_takesE) (pc := 88) dX11_takesE_88 (k := ?_)
            refine g_iadd (M := mX11_takesE) (pc := 89) dX11_takesE_89 (k := ?_)
            refine g_put (M := mX11_takesE) (pc := 90) (ji := 13) (by rfl) fX11_13 kX11_50 dX11_takesE_90 (by omega) (kk := ?_)
            refine g_goto (M := mX11_takesE) (pc := 93) (tgt := 22) dX11_takesE_93 (k := ?_)
            refine g_less (leL_s (leL_s (leL_s (leL_n leL_0)))) ?_
            refine ih22 _ _ ?_ ?_
            · (first | omega | (simp only [up_same, up_cell, up_slot, ne_eq, not_false_eq_true, Nat.reduceEqDiff, Int.reduceEq, reduceCtorEq, Nat.reduceAdd, Int.reduceAdd, Int.reduceSub]; omega))
            · skip
              refine ⟨?_, ?_, ?_, ?_, ?_, ?_, ?_, ?_⟩
              · refine jvu69_13 ?_ (by omega) (by omega); refine jvu69_24 ?_ (by omega) (by omega); refine jv_cell ?_ (by rfl); refine jv_free ?_ (by rfl); exact hI22
              · refine Fr.up ?_ (by first | rfl | (unfold jcE; simp; try omega)); refine Fr.up ?_ (by first | rfl | (unfold jcE; simp; try omega)); refine Fr.up ?_ (by first | rfl | (unfold jcE; simp; try omega)); refine Fr.up ?_ (by first | rfl | (unfold jcE; simp; try omega)); exact hF22
              · omega
              · first | exact PS_init (by omega) (by omega) | (rw [show w = 1 by omega]; exact PS_open (by rw [show (1 : Int) = w by omega]; exact hx22_0) (by omega) (by omega)) | exact hps97 | exact PS_join hp124 (by omega) (by omega) | (rw [show w = 0 by omega]; exact hp226)
              · intro j hj; first | (simp only [up_same, up_cell, up_slot, ne_eq, not_false_eq_true, Nat.reduceEqDiff, Int.reduceEq, reduceCtorEq, Nat.reduceAdd, Int.reduceAdd, Int.reduceSub]; done) | (simp only [up_same, up_cell, up_slot, ne_eq, not_false_eq_true, Nat.reduceEqDiff, Int.reduceEq, reduceCtorEq, Nat.reduceAdd, Int.reduceAdd, Int.reduceSub]; exact hx22_1 j hj) | exact (hk97 j hj).trans (hx22_1 j hj) | (simp only [up_same, up_cell, up_slot, ne_eq, not_false_eq_true, Nat.reduceEqDiff, Int.reduceEq, reduceCtorEq, Nat.reduceAdd, Int.reduceAdd, Int.reduceSub]; exact (hk124 j hj).trans (hx22_1 j hj)) | (rw [hk226 j hj]; (try simp only [up_same, up_cell, up_slot, ne_eq, not_false_eq_true, Nat.reduceEqDiff, Int.reduceEq, reduceCtorEq, Nat.reduceAdd, Int.reduceAdd, Int.reduceSub]); exact (hk165 j hj).trans (hx22_1 j hj)) | (simp only [up_same, up_cell, up_slot, ne_eq, not_false_eq_true, Nat.reduceEqDiff, Int.reduceEq, reduceCtorEq, Nat.reduceAdd, Int.reduceAdd, Int.reduceSub]; exact (hk165 j hj).trans (hx22_1 j hj)) | exact hx22_1 j hj
              · first | (simp only [up_same, up_cell, up_slot, ne_eq, not_false_eq_true, Nat.reduceEqDiff, Int.reduceEq, reduceCtorEq, Nat.reduceAdd, Int.reduceAdd, Int.reduceSub]; done) | (simp only [up_same, up_cell, up_slot, ne_eq, not_false_eq_true, Nat.reduceEqDiff, Int.reduceEq, reduceCtorEq, Nat.reduceAdd, Int.reduceAdd, Int.reduceSub]; exact hx22_2) | (rw [hG97 82 c rfl]; exact hx22_2) | (simp only [up_same, up_cell, up_slot, ne_eq, not_false_eq_true, Nat.reduceEqDiff, Int.reduceEq, reduceCtorEq, Nat.reduceAdd, Int.reduceAdd, Int.reduceSub]; rw [hG124 82 c rfl]; exact hx22_2) | (rw [hG226 82 c rfl]; simp only [up_same, up_cell, up_slot, ne_eq, not_false_eq_true, Nat.reduceEqDiff, Int.reduceEq, reduceCtorEq, Nat.reduceAdd, Int.reduceAdd, Int.reduceSub]; rw [hG165 82 c rfl]; exact hx22_2) | (rw [hG226 82 c rfl]; rw [hG165 82 c rfl]; exact hx22_2) | (simp only [up_same, up_cell, up_slot, ne_eq, not_false_eq_true, Nat.reduceEqDiff, Int.reduceEq, reduceCtorEq, Nat.reduceAdd, Int.reduceAdd, Int.reduceSub]; rw [hG165 82 c rfl]; exact hx22_2) | exact hx22_2
              · first | omega | (simp only [up_same, up_cell, up_slot, ne_eq, not_false_eq_true, Nat.reduceEqDiff, Int.reduceEq, reduceCtorEq, Nat.reduceAdd, Int.reduceAdd, Int.reduceSub]; omega)
              · intro j hj; exact ⟨by first | (simp only [up_same, up_cell, up_slot, ne_eq, not_false_eq_true, Nat.reduceEqDiff, Int.reduceEq, reduceCtorEq, Nat.reduceAdd, Int.reduceAdd, Int.reduceSub, hj]; done) | (simp only [up_same, up_cell, up_slot, ne_eq, not_false_eq_true, Nat.reduceEqDiff, Int.reduceEq, reduceCtorEq, Nat.reduceAdd, Int.reduceAdd, Int.reduceSub, hj]; exact (hx22_4 j hj).1) | (rw [hG97 82 j rfl]; exact (hx22_4 j hj).1) | (simp only [up_same, up_cell, up_slot, ne_eq, not_false_eq_true, Nat.reduceEqDiff, Int.reduceEq, reduceCtorEq, Nat.reduceAdd, Int.reduceAdd, Int.reduceSub, hj]; rw [hG124 82 j rfl]; exact (hx22_4 j hj).1) | (rw [hG226 82 j rfl]; simp only [up_same, up_cell, up_slot, ne_eq, not_false_eq_true, Nat.reduceEqDiff, Int.reduceEq, reduceCtorEq, Nat.reduceAdd, Int.reduceAdd, Int.reduceSub, hj]; rw [hG165 82 j rfl]; exact (hx22_4 j hj).1) | (rw [hG226 82 j rfl]; rw [hG165 82 j rfl]; exact (hx22_4 j hj).1) | (simp only [up_same, up_cell, up_slot, ne_eq, not_false_eq_true, Nat.reduceEqDiff, Int.reduceEq, reduceCtorEq, Nat.reduceAdd, Int.reduceAdd, Int.reduceSub, hj]; rw [hG165 82 j rfl]; exact (hx22_4 j hj).1) | exact (hx22_4 j hj).1, by first | (simp only [up_same, up_cell, up_slot, ne_eq, not_false_eq_true, Nat.reduceEqDiff, Int.reduceEq, reduceCtorEq, Nat.reduceAdd, Int.reduceAdd, Int.reduceSub, hj]; done) | (simp only [up_same, up_cell, up_slot, ne_eq, not_false_eq_true, Nat.reduceEqDiff, Int.reduceEq, reduceCtorEq, Nat.reduceAdd, Int.reduceAdd, Int.reduceSub, hj]; exact (hx22_4 j hj).2) | (rw [hG97 83 j rfl]; exact (hx22_4 j hj).2) | (simp only [up_same, up_cell, up_slot, ne_eq, not_false_eq_true, Nat.reduceEqDiff, Int.reduceEq, reduceCtorEq, Nat.reduceAdd, Int.reduceAdd, Int.reduceSub, hj]; rw [hG124 83 j rfl]; exact (hx22_4 j hj).2) | (rw [hG226 83 j rfl]; simp only [up_same, up_cell, up_slot, ne_eq, not_false_eq_true, Nat.reduceEqDiff, Int.reduceEq, reduceCtorEq, Nat.reduceAdd, Int.reduceAdd, Int.reduceSub, hj]; rw [hG165 83 j rfl]; exact (hx22_4 j hj).2) | (rw [hG226 83 j rfl]; rw [hG165 83 j rfl]; exact (hx22_4 j hj).2) | (simp only [up_same, up_cell, up_slot, ne_eq, not_false_eq_true, Nat.reduceEqDiff, Int.reduceEq, reduceCtorEq, Nat.reduceAdd, Int.reduceAdd, Int.reduceSub, hj]; rw [hG165 83 j rfl]; exact (hx22_4 j hj).2) | exact (hx22_4 j hj).2⟩
          · skip
            refine g_iconst (M := mX11_takesE) (pc := 51) dX11_takesE_51 (k := ?_)
            refine g_zret (M := mX11_takesE) (pc := 52) (by first | omega | (unfold b2; split <;> omega)) rfl dX11_takesE_52 rfl ⟨_, _, rfl, rfl, ?_⟩
            refine ⟨?_, ?_, ?_, ?_, ?_⟩
            · first | exact Or.inl rfl | exact Or.inr ⟨rfl, hE1, hE2, hE3, hE4, hE5, hE6⟩
            · intro j hj; first | (simp only [up_same, up_cell, up_slot, ne_eq, not_false_eq_true, Nat.reduceEqDiff, Int.reduceEq, reduceCtorEq, Nat.reduceAdd, Int.reduceAdd, Int.reduceSub]; done) | (simp only [up_same, up_cell, up_slot, ne_eq, not_false_eq_true, Nat.reduceEqDiff, Int.reduceEq, reduceCtorEq, Nat.reduceAdd, Int.reduceAdd, Int.reduceSub]; exact hx22_1 j hj) | exact (hk97 j hj).trans (hx22_1 j hj) | (simp only [up_same, up_cell, up_slot, ne_eq, not_false_eq_true, Nat.reduceEqDiff, Int.reduceEq, reduceCtorEq, Nat.reduceAdd, Int.reduceAdd, Int.reduceSub]; exact (hk124 j hj).trans (hx22_1 j hj)) | (rw [hk226 j hj]; (try simp only [up_same, up_cell, up_slot, ne_eq, not_false_eq_true, Nat.reduceEqDiff, Int.reduceEq, reduceCtorEq, Nat.reduceAdd, Int.reduceAdd, Int.reduceSub]); exact (hk165 j hj).trans (hx22_1 j hj)) | (simp only [up_same, up_cell, up_slot, ne_eq, not_false_eq_true, Nat.reduceEqDiff, Int.reduceEq, reduceCtorEq, Nat.reduceAdd, Int.reduceAdd, Int.reduceSub]; exact (hk165 j hj).trans (hx22_1 j hj)) | exact hx22_1 j hj
            · intro j hj; exact ⟨by first | (simp only [up_same, up_cell, up_slot, ne_eq, not_false_eq_true, Nat.reduceEqDiff, Int.reduceEq, reduceCtorEq, Nat.reduceAdd, Int.reduceAdd, Int.reduceSub, hj]; done) | (simp only [up_same, up_cell, up_slot, ne_eq, not_false_eq_true, Nat.reduceEqDiff, Int.reduceEq, reduceCtorEq, Nat.reduceAdd, Int.reduceAdd, Int.reduceSub, hj]; exact (hx22_4 j hj).1) | (rw [hG97 82 j rfl]; exact (hx22_4 j hj).1) | (simp only [up_same, up_cell, up_slot, ne_eq, not_false_eq_true, Nat.reduceEqDiff, Int.reduceEq, reduceCtorEq, Nat.reduceAdd, Int.reduceAdd, Int.reduceSub, hj]; rw [hG124 82 j rfl]; exact (hx22_4 j hj).1) | (rw [hG226 82 j rfl]; simp only [up_same, up_cell, up_slot, ne_eq, not_false_eq_true, Nat.reduceEqDiff, Int.reduceEq, reduceCtorEq, Nat.reduceAdd, Int.reduceAdd, Int.reduceSub, hj]; rw [hG165 82 j rfl]; exact (hx22_4 j hj).1) | (rw [hG226 82 j rfl]; rw [hG165 82 j rfl]; exact (hx22_4 j hj).1) | (simp only [up_same, up_cell, up_slot, ne_eq, not_false_eq_true, Nat.reduceEqDiff, Int.reduceEq, reduceCtorEq, Nat.reduceAdd, Int.reduceAdd, Int.reduceSub, hj]; rw [hG165 82 j rfl]; exact (hx22_4 j hj).1) | exact (hx22_4 j hj).1, by first | (simp only [up_same, up_cell, up_slot, ne_eq, not_false_eq_true, Nat.reduceEqDiff, Int.reduceEq, reduceCtorEq, Nat.reduceAdd, Int.reduceAdd, Int.reduceSub, hj]; done) | (simp only [up_same, up_cell, up_slot, ne_eq, not_false_eq_true, Nat.reduceEqDiff, Int.reduceEq, reduceCtorEq, Nat.reduceAdd, Int.reduceAdd, Int.reduceSub, hj]; exact (hx22_4 j hj).2) | (rw [hG97 83 j rfl]; exact (hx22_4 j hj).2) | (simp only [up_same, up_cell, up_slot, ne_eq, not_false_eq_true, Nat.reduceEqDiff, Int.reduceEq, reduceCtorEq, Nat.reduceAdd, Int.reduceAdd, Int.reduceSub, hj]; rw [hG124 83 j rfl]; exact (hx22_4 j hj).2) | (rw [hG226 83 j rfl]; simp only [up_same, up_cell, up_slot, ne_eq, not_false_eq_true, Nat.reduceEqDiff, Int.reduceEq, reduceCtorEq, Nat.reduceAdd, Int.reduceAdd, Int.reduceSub, hj]; rw [hG165 83 j rfl]; exact (hx22_4 j hj).2) | (rw [hG226 83 j rfl]; rw [hG165 83 j rfl]; exact (hx22_4 j hj).2) | (simp only [up_same, up_cell, up_slot, ne_eq, not_false_eq_true, Nat.reduceEqDiff, Int.reduceEq, reduceCtorEq, Nat.reduceAdd, Int.reduceAdd, Int.reduceSub, hj]; rw [hG165 83 j rfl]; exact (hx22_4 j hj).2) | exact (hx22_4 j hj).2⟩
            · exact hI22
            · exact hF22
        · skip
          refine g_iload_n (M := mX11_takesE) (pc := 37) dX11_takesE_37 rfl (k := ?_)
          refine g_bipush (M := mX11_takesE) (pc := 38) dX11_takesE_38 (k := ?_)
          refine g_icmp_ne (M := mX11_takesE) (pc := 40) (tgt := 96) (by omega) (by omega) dX11_takesE_40 (k1 := fun h40 => ?_) (k2 := fun h40 => ?_)
          · skip
            refine g_aload_n (M := mX11_takesE) (pc := 96) dX11_takesE_96 rfl (k := ?_)
            refine g_cV0I (M := mX11_takesE) (pc := 97) (c_X11_takesTest Γ t _ (σ 69 23) bb hI22 (by rw [show (1 : Int) = w by omega]; exact hx22_0) (by omega)) qX11_takesTest vX11_takesTest sX11_takesTest kX11_264 dX11_takesE_97 (kk := ?_)
            rintro r97 τ97 ⟨hr97, hk97, hI97, hG97⟩
            have hps97 : r97 = 0 ∨ PS τ97 (σ 69 23) bb 0 := hr97.elim Or.inl (fun h => Or.inr h.2.1)
            have hat97 : r97 = 0 ∨ τ22 69 13 < τ97 69 13 := hr97.elim Or.inl (fun h => Or.inr h.2.2)
            have hF97 : Fr jcE σ τ97 := by refine Fr.tr ?_ (Fr.mono hG97 sb_jcT_jcE); exact hF22
            refine g_if_eq (M := mX11_takesE) (pc := 100) (tgt := 108) (by omega) dX11_takesE_100 (k1 := fun h100 => ?_) (k2 := fun h100 => ?_)
            · skip
              refine g_iconst (M := mX11_takesE) (pc := 108) dX11_takesE_108 (k := ?_)
              refine g_zret (M := mX11_takesE) (pc := 109) (by first | omega | (unfold b2; split <;> omega)) rfl dX11_takesE_109 rfl ⟨_, _, rfl, rfl, ?_⟩
              refine ⟨?_, ?_, ?_, ?_, ?_⟩
              · first | exact Or.inl rfl | exact Or.inr ⟨rfl, hE1, hE2, hE3, hE4, hE5, hE6⟩
              · intro j hj; first | (simp only [up_same, up_cell, up_slot, ne_eq, not_false_eq_true, Nat.reduceEqDiff, Int.reduceEq, reduceCtorEq, Nat.reduceAdd, Int.reduceAdd, Int.reduceSub]; done) | (simp only [up_same, up_cell, up_slot, ne_eq, not_false_eq_true, Nat.reduceEqDiff, Int.reduceEq, reduceCtorEq, Nat.reduceAdd, Int.reduceAdd, Int.reduceSub]; exact hx22_1 j hj) | exact (hk97 j hj).trans (hx22_1 j hj) | (simp only [up_same, up_cell, up_slot, ne_eq, not_false_eq_true, Nat.reduceEqDiff, Int.reduceEq, reduceCtorEq, Nat.reduceAdd, Int.reduceAdd, Int.reduceSub]; exact (hk124 j hj).trans (hx22_1 j hj)) | (rw [hk226 j hj]; (try simp only [up_same, up_cell, up_slot, ne_eq, not_false_eq_true, Nat.reduceEqDiff, Int.reduceEq, reduceCtorEq, Nat.reduceAdd, Int.reduceAdd, Int.reduceSub]); exact (hk165 j hj).trans (hx22_1 j hj)) | (simp only [up_same, up_cell, up_slot, ne_eq, not_false_eq_true, Nat.reduceEqDiff, Int.reduceEq, reduceCtorEq, Nat.reduceAdd, Int.reduceAdd, Int.reduceSub]; exact (hk165 j hj).trans (hx22_1 j hj)) | exact hx22_1 j hj
              · intro j hj; exact ⟨by first | (simp only [up_same, up_cell, up_slot, ne_eq, not_false_eq_true, Nat.reduceEqDiff, Int.reduceEq, reduceCtorEq, Nat.reduceAdd, Int.reduceAdd, Int.reduceSub, hj]; done) | (simp only [up_same, up_cell, up_slot, ne_eq, not_false_eq_true, Nat.reduceEqDiff, Int.reduceEq, reduceCtorEq, Nat.reduceAdd, Int.reduceAdd, Int.reduceSub, hj]; exact (hx22_4 j hj).1) | (rw [hG97 82 j rfl]; exact (hx22_4 j hj).1) | (simp only [up_same, up_cell, up_slot, ne_eq, not_false_eq_true, Nat.reduceEqDiff, Int.reduceEq, reduceCtorEq, Nat.reduceAdd, Int.reduceAdd, Int.reduceSub, hj]; rw [hG124 82 j rfl]; exact (hx22_4 j hj).1) | (rw [hG226 82 j rfl]; simp only [up_same, up_cell, up_slot, ne_eq, not_false_eq_true, Nat.reduceEqDiff, Int.reduceEq, reduceCtorEq, Nat.reduceAdd, Int.reduceAdd, Int.reduceSub, hj]; rw [hG165 82 j rfl]; exact (hx22_4 j hj).1) | (rw [hG226 82 j rfl]; rw [hG165 82 j rfl]; exact (hx22_4 j hj).1) | (simp only [up_same, up_cell, up_slot, ne_eq, not_false_eq_true, Nat.reduceEqDiff, Int.reduceEq, reduceCtorEq, Nat.reduceAdd, Int.reduceAdd, Int.reduceSub, hj]; rw [hG165 82 j rfl]; exact (hx22_4 j hj).1) | exact (hx22_4 j hj).1, by first | (simp only [up_same, up_cell, up_slot, ne_eq, not_false_eq_true, Nat.reduceEqDiff, Int.reduceEq, reduceCtorEq, Nat.reduceAdd, Int.reduceAdd, Int.reduceSub, hj]; done) | (simp only [up_same, up_cell, up_slot, ne_eq, not_false_eq_true, Nat.reduceEqDiff, Int.reduceEq, reduceCtorEq, Nat.reduceAdd, Int.reduceAdd, Int.reduceSub, hj]; exact (hx22_4 j hj).2) | (rw [hG97 83 j rfl]; exact (hx22_4 j hj).2) | (simp only [up_same, up_cell, up_slot, ne_eq, not_false_eq_true, Nat.reduceEqDiff, Int.reduceEq, reduceCtorEq, Nat.reduceAdd, Int.reduceAdd, Int.reduceSub, hj]; rw [hG124 83 j rfl]; exact (hx22_4 j hj).2) | (rw [hG226 83 j rfl]; simp only [up_same, up_cell, up_slot, ne_eq, not_false_eq_true, Nat.reduceEqDiff, Int.reduceEq, reduceCtorEq, Nat.reduceAdd, Int.reduceAdd, Int.reduceSub, hj]; rw [hG165 83 j rfl]; exact (hx22_4 j hj).2) | (rw [hG226 83 j rfl]; rw [hG165 83 j rfl]; exact (hx22_4 j hj).2) | (simp only [up_same, up_cell, up_slot, ne_eq, not_false_eq_true, Nat.reduceEqDiff, Int.reduceEq, reduceCtorEq, Nat.reduceAdd, Int.reduceAdd, Int.reduceSub, hj]; rw [hG165 83 j rfl]; exact (hx22_4 j hj).2) | exact (hx22_4 j hj).2⟩
              · exact hI97
              · exact hF97
            · skip
              have hps97 : PS τ97 (σ 69 23) bb 0 := hps97.elim (fun h => absurd h h100) id
              refine g_iconst (M := mX11_takesE) (pc := 103) dX11_takesE_103 (k := ?_)
              refine g_istore_2 (M := mX11_takesE) (pc := 104) dX11_takesE_104 (k := ?_)
              refine g_goto (M := mX11_takesE) (pc := 105) (tgt := 22) dX11_takesE_105 (k := ?_)
              refine g_less (leL_s (leL_s (leL_s (leL_n leL_0)))) ?_
              refine ih22 _ _ ?_ ?_
              · (first | omega | (simp only [up_same, up_cell, up_slot, ne_eq, not_false_eq_true, Nat.reduceEqDiff, Int.reduceEq, reduceCtorEq, Nat.reduceAdd, Int.reduceAdd, Int.reduceSub]; omega))
              · skip
                refine ⟨?_, ?_, ?_, ?_, ?_, ?_, ?_, ?_⟩
                · exact hI97
                · exact hF97
                · omega
                · first | exact PS_init (by omega) (by omega) | (rw [show w = 1 by omega]; exact PS_open (by rw [show (1 : Int) = w by omega]; exact hx22_0) (by omega) (by omega)) | exact hps97 | exact PS_join hp124 (by omega) (by omega) | (rw [show w = 0 by omega]; exact hp226)
                · intro j hj; first | (simp only [up_same, up_cell, up_slot, ne_eq, not_false_eq_true, Nat.reduceEqDiff, Int.reduceEq, reduceCtorEq, Nat.reduceAdd, Int.reduceAdd, Int.reduceSub]; done) | (simp only [up_same, up_cell, up_slot, ne_eq, not_false_eq_true, Nat.reduceEqDiff, Int.reduceEq, reduceCtorEq, Nat.reduceAdd, Int.reduceAdd, Int.reduceSub]; exact hx22_1 j hj) | exact (hk97 j hj).trans (hx22_1 j hj) | (simp only [up_same, up_cell, up_slot, ne_eq, not_false_eq_true, Nat.reduceEqDiff, Int.reduceEq, reduceCtorEq, Nat.reduceAdd, Int.reduceAdd, Int.reduceSub]; exact (hk124 j hj).trans (hx22_1 j hj)) | (rw [hk226 j hj]; (try simp only [up_same, up_cell, up_slot, ne_eq, not_false_eq_true, Nat.reduceEqDiff, Int.reduceEq, reduceCtorEq, Nat.reduceAdd, Int.reduceAdd, Int.reduceSub]); exact (hk165 j hj).trans (hx22_1 j hj)) | (simp only [up_same, up_cell, up_slot, ne_eq, not_false_eq_true, Nat.reduceEqDiff, Int.reduceEq, reduceCtorEq, Nat.reduceAdd, Int.reduceAdd, Int.reduceSub]; exact (hk165 j hj).trans (hx22_1 j hj)) | exact hx22_1 j hj
                · first | (simp only [up_same, up_cell, up_slot, ne_eq, not_false_eq_true, Nat.reduceEqDiff, Int.reduceEq, reduceCtorEq, Nat.reduceAdd, Int.reduceAdd, Int.reduceSub]; done) | (simp only [up_same, up_cell, up_slot, ne_eq, not_false_eq_true, Nat.reduceEqDiff, Int.reduceEq, reduceCtorEq, Nat.reduceAdd, Int.reduceAdd, Int.reduceSub]; exact hx22_2) | (rw [hG97 82 c rfl]; exact hx22_2) | (simp only [up_same, up_cell, up_slot, ne_eq, not_false_eq_true, Nat.reduceEqDiff, Int.reduceEq, reduceCtorEq, Nat.reduceAdd, Int.reduceAdd, Int.reduceSub]; rw [hG124 82 c rfl]; exact hx22_2) | (rw [hG226 82 c rfl]; simp only [up_same, up_cell, up_slot, ne_eq, not_false_eq_true, Nat.reduceEqDiff, Int.reduceEq, reduceCtorEq, Nat.reduceAdd, Int.reduceAdd, Int.reduceSub]; rw [hG165 82 c rfl]; exact hx22_2) | (rw [hG226 82 c rfl]; rw [hG165 82 c rfl]; exact hx22_2) | (simp only [up_same, up_cell, up_slot, ne_eq, not_false_eq_true, Nat.reduceEqDiff, Int.reduceEq, reduceCtorEq, Nat.reduceAdd, Int.reduceAdd, Int.reduceSub]; rw [hG165 82 c rfl]; exact hx22_2) | exact hx22_2
                · first | omega | (simp only [up_same, up_cell, up_slot, ne_eq, not_false_eq_true, Nat.reduceEqDiff, Int.reduceEq, reduceCtorEq, Nat.reduceAdd, Int.reduceAdd, Int.reduceSub]; omega)
                · intro j hj; exact ⟨by first | (simp only [up_same, up_cell, up_slot, ne_eq, not_false_eq_true, Nat.reduceEqDiff, Int.reduceEq, reduceCtorEq, Nat.reduceAdd, Int.reduceAdd, Int.reduceSub, hj]; done) | (simp only [up_same, up_cell, up_slot, ne_eq, not_false_eq_true, Nat.reduceEqDiff, Int.reduceEq, reduceCtorEq, Nat.reduceAdd, Int.reduceAdd, Int.reduceSub, hj]; exact (hx22_4 j hj).1) | (rw [hG97 82 j rfl]; exact (hx22_4 j hj).1) | (simp only [up_same, up_cell, up_slot, ne_eq, not_false_eq_true, Nat.reduceEqDiff, Int.reduceEq, reduceCtorEq, Nat.reduceAdd, Int.reduceAdd, Int.reduceSub, hj]; rw [hG124 82 j rfl]; exact (hx22_4 j hj).1) | (rw [hG226 82 j rfl]; simp only [up_same, up_cell, up_slot, ne_eq, not_false_eq_true, Nat.reduceEqDiff, Int.reduceEq, reduceCtorEq, Nat.reduceAdd, Int.reduceAdd, Int.reduceSub, hj]; rw [hG165 82 j rfl]; exact (hx22_4 j hj).1) | (rw [hG226 82 j rfl]; rw [hG165 82 j rfl]; exact (hx22_4 j hj).1) | (simp only [up_same, up_cell, up_slot, ne_eq, not_false_eq_true, Nat.reduceEqDiff, Int.reduceEq, reduceCtorEq, Nat.reduceAdd, Int.reduceAdd, Int.reduceSub, hj]; rw [hG165 82 j rfl]; exact (hx22_4 j hj).1) | exact (hx22_4 j hj).1, by first | (simp only [up_same, up_cell, up_slot, ne_eq, not_false_eq_true, Nat.reduceEqDiff, Int.reduceEq, reduceCtorEq, Nat.reduceAdd, Int.reduceAdd, Int.reduceSub, hj]; done) | (simp only [up_same, up_cell, up_slot, ne_eq, not_false_eq_true, Nat.reduceEqDiff, Int.reduceEq, reduceCtorEq, Nat.reduceAdd, Int.reduceAdd, Int.reduceSub, hj]; exact (hx22_4 j hj).2) | (rw [hG97 83 j rfl]; exact (hx22_4 j hj).2) | (simp only [up_same, up_cell, up_slot, ne_eq, not_false_eq_true, Nat.reduceEqDiff, Int.reduceEq, reduceCtorEq, Nat.reduceAdd, Int.reduceAdd, Int.reduceSub, hj]; rw [hG124 83 j rfl]; exact (hx22_4 j hj).2) | (rw [hG226 83 j rfl]; simp only [up_same, up_cell, up_slot, ne_eq, not_false_eq_true, Nat.reduceEqDiff, Int.reduceEq, reduceCtorEq, Nat.reduceAdd, Int.reduceAdd, Int.reduceSub, hj]; rw [hG165 83 j rfl]; exact (hx22_4 j hj).2) | (rw [hG226 83 j rfl]; rw [hG165 83 j rfl]; exact (hx22_4 j hj).2) | (simp only [up_same, up_cell, up_slot, ne_eq, not_false_eq_true, Nat.reduceEqDiff, Int.reduceEq, reduceCtorEq, Nat.reduceAdd, Int.reduceAdd, Int.reduceSub, hj]; rw [hG165 83 j rfl]; exact (hx22_4 j hj).2) | exact (hx22_4 j hj).2⟩
          · skip
            refine g_aload_n (M := mX11_takesE) (pc := 43) dX11_takesE_43 rfl (k := ?_)
            refine g_get (M := mX11_takesE) (pc := 44) (ji := 25) (by rfl) fX11_25 kX11_86 dX11_takesE_44 (kk := fun hr44 => ?_)
            refine g_iconst (M := mX11_takesE) (pc := 47) dX11_takesE_47 (k := ?_)
            refine g_icmp_ne (M := mX11_takesE) (pc := 48) (tgt := 53) (by omega) (by omega) dX11_takesE_48 (k1 := fun h48 => ?_) (k2 := fun h48 => ?_)
            · skip
              refine g_aload_n (M := mX11_takesE) (pc := 53) dX11_takesE_53 rfl (k := ?_)
              refine g_dupR (M := mX11_takesE) (pc := 54) dX11_takesE_54 (k := ?_)
              refine g_get (M := mX11_takesE) (pc := 55) (ji := 25) (by rfl) fX11_25 kX11_86 dX11_takesE_55 (kk := fun hr55 => ?_)
              refine g_iconst (M := mX11_takesE) (pc := 58) dX11_takesE_58 (k := ?_)
              refine g_iadd (M := mX11_takesE) (pc := 59) dX11_takesE_59 (k := ?_)
              refine g_put (M := mX11_takesE) (pc := 60) (ji := 25) (by rfl) fX11_25 kX11_86 dX11_takesE_60 (by omega) (kk := ?_)
              refine g_aload_n (M := mX11_takesE) (pc := 63) dX11_takesE_63 rfl (k := ?_)
              refine g_getr (M := mX11_takesE) (pc := 64) (by rfl) fX11_22 kX11_77 dX11_takesE_64 (by rfl) (kk := ?_)
              refine g_aload_n (M := mX11_takesE) (pc := 67) dX11_takesE_67 rfl (k := ?_)
              refine g_get (M := mX11_takesE) (pc := 68) (ji := 24) (by rfl) fX11_24 kX11_83 dX11_takesE_68 (kk := fun hr68 => ?_)
              simp only [up_same, up_cell, up_slot, ne_eq, not_false_eq_true, Nat.reduceEqDiff, Int.reduceEq, reduceCtorEq, Nat.reduceAdd, Int.reduceAdd, Int.reduceSub] at hr68 ⊢
              have hb68 := jv69_24 hI22 24 (by omega) (by omega)
              refine g_iload_n (M := mX11_takesE) (pc := 71) dX11_takesE_71 rfl (k := ?_)
              refine g_iast (M := mX11_takesE) (pc := 72) (by rfl) (by omega) (by omega) (by omega) dX11_takesE_72 (kk := ?_)
              refine g_aload_n (M := mX11_takesE) (pc := 73) dX11_takesE_73 rfl (k := ?_)
              refine g_dupR (M := mX11_takesE) (pc := 74) dX11_takesE_74 (k := ?_)
              refine g_get (M := mX11_takesE) (pc := 75) (ji := 24) (by rfl) fX11_24 kX11_83 dX11_takesE_75 (kk := fun hr75 => ?_)
              simp only [up_same, up_cell, up_slot, ne_eq, not_false_eq_true, Nat.reduceEqDiff, Int.reduceEq, reduceCtorEq, Nat.reduceAdd, Int.reduceAdd, Int.reduceSub] at hr75 ⊢
              refine g_iconst (M := mX11_takesE) (pc := 78) dX11_takesE_78 (k := ?_)
              refine g_iadd (M := mX11_takesE) (pc := 79) dX11_takesE_79 (k := ?_)
              refine g_put (M := mX11_takesE) (pc := 80) (ji := 24) (by rfl) fX11_24 kX11_83 dX11_takesE_80 (by omega) (kk := ?_)
              refine g_aload_n (M := mX11_takesE) (pc := 83) dX11_takesE_83 rfl (k := ?_)
              refine g_dupR (M := mX11_takesE) (pc := 84) dX11_takesE_84 (k := ?_)
              refine g_get (M := mX11_takesE) (pc := 85) (ji := 13) (by rfl) fX11_13 kX11_50 dX11_takesE_85 (kk := fun hr85 => ?_)
              simp only [up_same, up_cell, up_slot, ne_eq, not_false_eq_true, Nat.reduceEqDiff, Int.reduceEq, reduceCtorEq, Nat.reduceAdd, Int.reduceAdd, Int.reduceSub] at hr85 ⊢
              refine g_iconst (M := mX11_takesE) (pc := 88) dX11_takesE_88 (k := ?_)
              refine g_iadd (M := mX11_takesE) (pc := 89) dX11_takesE_89 (k := ?_)
              refine g_put (M := mX11_takesE) (pc := 90) (ji := 13) (by rfl) fX11_13 kX11_50 dX11_takesE_90 (by omega) (kk := ?_)
              refine g_goto (M := mX11_takesE) (pc := 93) (tgt := 22) dX11_takesE_93 (k := ?_)
              refine g_less (leL_s (leL_s (leL_s (leL_n leL_0)))) ?_
              refine ih22 _ _ ?_ ?_
              · (first | omega | (simp only [up_same, up_cell, up_slot, ne_eq, not_false_eq_true, Nat.reduceEqDiff, Int.reduceEq, reduceCtorEq, Nat.reduceAdd, Int.reduceAdd, Int.reduceSub]; omega))
              · skip
                refine ⟨?_, ?_, ?_, ?_, ?_, ?_, ?_, ?_⟩
                · refine jvu69_13 ?_ (by omega) (by omega); refine jvu69_24 ?_ (by omega) (by omega); refine jv_cell ?_ (by rfl); refine jv_free ?_ (by rfl); exact hI22
                · refine Fr.up ?_ (by first | rfl | (unfold jcE; simp; try omega)); refine Fr.up ?_ (by first | rfl | (unfold jcE; simp; try omega)); refine Fr.up ?_ (by first | rfl | (unfold jcE; simp; try omega)); refine Fr.up ?_ (by first | rfl | (unfold jcE; simp; try omega)); exact hF22
                · omega
                · first | exact PS_init (by omega) (by omega) | (rw [show w = 1 by omega]; exact PS_open (by rw [show (1 : Int) = w by omega]; exact hx22_0) (by omega) (by omega)) | exact hps97 | exact PS_join hp124 (by omega) (by omega) | (rw [show w = 0 by omega]; exact hp226)
                · intro j hj; first | (simp only [up_same, up_cell, up_slot, ne_eq, not_false_eq_true, Nat.reduceEqDiff, Int.reduceEq, reduceCtorEq, Nat.reduceAdd, Int.reduceAdd, Int.reduceSub]; done) | (simp only [up_same, up_cell, up_slot, ne_eq, not_false_eq_true, Nat.reduceEqDiff, Int.reduceEq, reduceCtorEq, Nat.reduceAdd, Int.reduceAdd, Int.reduceSub]; exact hx22_1 j hj) | exact (hk97 j hj).trans (hx22_1 j hj) | (simp only [up_same, up_cell, up_slot, ne_eq, not_false_eq_true, Nat.reduceEqDiff, Int.reduceEq, reduceCtorEq, Nat.reduceAdd, Int.reduceAdd, Int.reduceSub]; exact (hk124 j hj).trans (hx22_1 j hj)) | (rw [hk226 j hj]; (try simp only [up_same, up_cell, up_slot, ne_eq, not_false_eq_true, Nat.reduceEqDiff, Int.reduceEq, reduceCtorEq, Nat.reduceAdd, Int.reduceAdd, Int.reduceSub]); exact (hk165 j hj).trans (hx22_1 j hj)) | (simp only [up_same, up_cell, up_slot, ne_eq, not_false_eq_true, Nat.reduceEqDiff, Int.reduceEq, reduceCtorEq, Nat.reduceAdd, Int.reduceAdd, Int.reduceSub]; exact (hk165 j hj).trans (hx22_1 j hj)) | exact hx22_1 j hj
                · first | (simp only [up_same, up_cell, up_slot, ne_eq, not_false_eq_true, Nat.reduceEqDiff, Int.reduceEq, reduceCtorEq, Nat.reduceAdd, Int.reduceAdd, Int.reduceSub]; done) | (simp only [up_same, up_cell, up_slot, ne_eq, not_false_eq_true, Nat.reduceEqDiff, Int.reduceEq, reduceCtorEq, Nat.reduceAdd, Int.reduceAdd, Int.reduceSub]; exact hx22_2) | (rw [hG97 82 c rfl]; exact hx22_2) | (simp only [up_same, up_cell, up_slot, ne_eq, not_false_eq_true, Nat.reduceEqDiff, Int.reduceEq, reduceCtorEq, Nat.reduceAdd, Int.reduceAdd, Int.reduceSub]; rw [hG124 82 c rfl]; exact hx22_2) | (rw [hG226 82 c rfl]; simp only [up_same, up_cell, up_slot, ne_eq, not_false_eq_true, Nat.reduceEqDiff, Int.reduceEq, reduceCtorEq, Nat.reduceAdd, Int.reduceAdd, Int.reduceSub]; rw [hG165 82 c rfl]; exact hx22_2) | (rw [hG226 82 c rfl]; rw [hG165 82 c rfl]; exact hx22_2) | (simp only [up_same, up_cell, up_slot, ne_eq, not_false_eq_true, Nat.reduceEqDiff, Int.reduceEq, reduceCtorEq, Nat.reduceAdd, Int.reduceAdd, Int.reduceSub]; rw [hG165 82 c rfl]; exact hx22_2) | exact hx22_2
                · first | omega | (simp only [up_same, up_cell, up_slot, ne_eq, not_false_eq_true, Nat.reduceEqDiff, Int.reduceEq, reduceCtorEq, Nat.reduceAdd, Int.reduceAdd, Int.reduceSub]; omega)
                · intro j hj; exact ⟨by first | (simp only [up_same, up_cell, up_slot, ne_eq, not_false_eq_true, Nat.reduceEqDiff, Int.reduceEq, reduceCtorEq, Nat.reduceAdd, Int.reduceAdd, Int.reduceSub, hj]; done) | (simp only [up_same, up_cell, up_slot, ne_eq, not_false_eq_true, Nat.reduceEqDiff, Int.reduceEq, reduceCtorEq, Nat.reduceAdd, Int.reduceAdd, Int.reduceSub, hj]; exact (hx22_4 j hj).1) | (rw [hG97 82 j rfl]; exact (hx22_4 j hj).1) | (simp only [up_same, up_cell, up_slot, ne_eq, not_false_eq_true, Nat.reduceEqDiff, Int.reduceEq, reduceCtorEq, Nat.reduceAdd, Int.reduceAdd, Int.reduceSub, hj]; rw [hG124 82 j rfl]; exact (hx22_4 j hj).1) | (rw [hG226 82 j rfl]; simp only [up_same, up_cell, up_slot, ne_eq, not_false_eq_true, Nat.reduceEqDiff, Int.reduceEq, reduceCtorEq, Nat.reduceAdd, Int.reduceAdd, Int.reduceSub, hj]; rw [hG165 82 j rfl]; exact (hx22_4 j hj).1) | (rw [hG226 82 j rfl]; rw [hG165 82 j rfl]; exact (hx22_4 j hj).1) | (simp only [up_same, up_cell, up_slot, ne_eq, not_false_eq_true, Nat.reduceEqDiff, Int.reduceEq, reduceCtorEq, Nat.reduceAdd, Int.reduceAdd, Int.reduceSub, hj]; rw [hG165 82 j rfl]; exact (hx22_4 j hj).1) | exact (hx22_4 j hj).1, by first | (simp only [up_same, up_cell, up_slot, ne_eq, not_false_eq_true, Nat.reduceEqDiff, Int.reduceEq, reduceCtorEq, Nat.reduceAdd, Int.reduceAdd, Int.reduceSub, hj]; done) | (simp only [up_same, up_cell, up_slot, ne_eq, not_false_eq_true, Nat.reduceEqDiff, Int.reduceEq, reduceCtorEq, Nat.reduceAdd, Int.reduceAdd, Int.reduceSub, hj]; exact (hx22_4 j hj).2) | (rw [hG97 83 j rfl]; exact (hx22_4 j hj).2) | (simp only [up_same, up_cell, up_slot, ne_eq, not_false_eq_true, Nat.reduceEqDiff, Int.reduceEq, reduceCtorEq, Nat.reduceAdd, Int.reduceAdd, Int.reduceSub, hj]; rw [hG124 83 j rfl]; exact (hx22_4 j hj).2) | (rw [hG226 83 j rfl]; simp only [up_same, up_cell, up_slot, ne_eq, not_false_eq_true, Nat.reduceEqDiff, Int.reduceEq, reduceCtorEq, Nat.reduceAdd, Int.reduceAdd, Int.reduceSub, hj]; rw [hG165 83 j rfl]; exact (hx22_4 j hj).2) | (rw [hG226 83 j rfl]; rw [hG165 83 j rfl]; exact (hx22_4 j hj).2) | (simp only [up_same, up_cell, up_slot, ne_eq, not_false_eq_true, Nat.reduceEqDiff, Int.reduceEq, reduceCtorEq, Nat.reduceAdd, Int.reduceAdd, Int.reduceSub, hj]; rw [hG165 83 j rfl]; exact (hx22_4 j hj).2) | exact (hx22_4 j hj).2⟩
            · skip
              refine g_iconst (M := mX11_takesE) (pc := 51) dX11_takesE_51 (k := ?_)
              refine g_zret (M := mX11_takesE) (pc := 52) (by first | omega | (unfold b2; split <;> omega)) rfl dX11_takesE_52 rfl ⟨_, _, rfl, rfl, ?_⟩
              refine ⟨?_, ?_, ?_, ?_, ?_⟩
              · first | exact Or.inl rfl | exact Or.inr ⟨rfl, hE1, hE2, hE3, hE4, hE5, hE6⟩
              · intro j hj; first | (simp only [up_same, up_cell, up_slot, ne_eq, not_false_eq_true, Nat.reduceEqDiff, Int.reduceEq, reduceCtorEq, Nat.reduceAdd, Int.reduceAdd, Int.reduceSub]; done) | (simp only [up_same, up_cell, up_slot, ne_eq, not_false_eq_true, Nat.reduceEqDiff, Int.reduceEq, reduceCtorEq, Nat.reduceAdd, Int.reduceAdd, Int.reduceSub]; exact hx22_1 j hj) | exact (hk97 j hj).trans (hx22_1 j hj) | (simp only [up_same, up_cell, up_slot, ne_eq, not_false_eq_true, Nat.reduceEqDiff, Int.reduceEq, reduceCtorEq, Nat.reduceAdd, Int.reduceAdd, Int.reduceSub]; exact (hk124 j hj).trans (hx22_1 j hj)) | (rw [hk226 j hj]; (try simp only [up_same, up_cell, up_slot, ne_eq, not_false_eq_true, Nat.reduceEqDiff, Int.reduceEq, reduceCtorEq, Nat.reduceAdd, Int.reduceAdd, Int.reduceSub]); exact (hk165 j hj).trans (hx22_1 j hj)) | (simp only [up_same, up_cell, up_slot, ne_eq, not_false_eq_true, Nat.reduceEqDiff, Int.reduceEq, reduceCtorEq, Nat.reduceAdd, Int.reduceAdd, Int.reduceSub]; exact (hk165 j hj).trans (hx22_1 j hj)) | exact hx22_1 j hj
              · intro j hj; exact ⟨by first | (simp only [up_same, up_cell, up_slot, ne_eq, not_false_eq_true, Nat.reduceEqDiff, Int.reduceEq, reduceCtorEq, Nat.reduceAdd, Int.reduceAdd, Int.reduceSub, hj]; done) | (simp only [up_same, up_cell, up_slot, ne_eq, not_false_eq_true, Nat.reduceEqDiff, Int.reduceEq, reduceCtorEq, Nat.reduceAdd, Int.reduceAdd, Int.reduceSub, hj]; exact (hx22_4 j hj).1) | (rw [hG97 82 j rfl]; exact (hx22_4 j hj).1) | (simp only [up_same, up_cell, up_slot, ne_eq, not_false_eq_true, Nat.reduceEqDiff, Int.reduceEq, reduceCtorEq, Nat.reduceAdd, Int.reduceAdd, Int.reduceSub, hj]; rw [hG124 82 j rfl]; exact (hx22_4 j hj).1) | (rw [hG226 82 j rfl]; simp only [up_same, up_cell, up_slot, ne_eq, not_false_eq_true, Nat.reduceEqDiff, Int.reduceEq, reduceCtorEq, Nat.reduceAdd, Int.reduceAdd, Int.reduceSub, hj]; rw [hG165 82 j rfl]; exact (hx22_4 j hj).1) | (rw [hG226 82 j rfl]; rw [hG165 82 j rfl]; exact (hx22_4 j hj).1) | (simp only [up_same, up_cell, up_slot, ne_eq, not_false_eq_true, Nat.reduceEqDiff, Int.reduceEq, reduceCtorEq, Nat.reduceAdd, Int.reduceAdd, Int.reduceSub, hj]; rw [hG165 82 j rfl]; exact (hx22_4 j hj).1) | exact (hx22_4 j hj).1, by first | (simp only [up_same, up_cell, up_slot, ne_eq, not_false_eq_true, Nat.reduceEqDiff, Int.reduceEq, reduceCtorEq, Nat.reduceAdd, Int.reduceAdd, Int.reduceSub, hj]; done) | (simp only [up_same, up_cell, up_slot, ne_eq, not_false_eq_true, Nat.reduceEqDiff, Int.reduceEq, reduceCtorEq, Nat.reduceAdd, Int.reduceAdd, Int.reduceSub, hj]; exact (hx22_4 j hj).2) | (rw [hG97 83 j rfl]; exact (hx22_4 j hj).2) | (simp only [up_same, up_cell, up_slot, ne_eq, not_false_eq_true, Nat.reduceEqDiff, Int.reduceEq, reduceCtorEq, Nat.reduceAdd, Int.reduceAdd, Int.reduceSub, hj]; rw [hG124 83 j rfl]; exact (hx22_4 j hj).2) | (rw [hG226 83 j rfl]; simp only [up_same, up_cell, up_slot, ne_eq, not_false_eq_true, Nat.reduceEqDiff, Int.reduceEq, reduceCtorEq, Nat.reduceAdd, Int.reduceAdd, Int.reduceSub, hj]; rw [hG165 83 j rfl]; exact (hx22_4 j hj).2) | (rw [hG226 83 j rfl]; rw [hG165 83 j rfl]; exact (hx22_4 j hj).2) | (simp only [up_same, up_cell, up_slot, ne_eq, not_false_eq_true, Nat.reduceEqDiff, Int.reduceEq, reduceCtorEq, Nat.reduceAdd, Int.reduceAdd, Int.reduceSub, hj]; rw [hG165 83 j rfl]; exact (hx22_4 j hj).2) | exact (hx22_4 j hj).2⟩
              · exact hI22
              · exact hF22
  refine loop22 _ _ _ (Nat.lt_succ_self _) ?_
  refine ⟨?_, ?_, ?_, ?_, ?_, ?_, ?_, ?_⟩
  · refine jvu82 ?_ (by omega) (by omega); refine jv_free ?_ (by rfl); refine jvu69_24 ?_ (by omega) (by omega); exact hI
  · refine Fr.up ?_ (by first | rfl | (unfold jcE; simp; try omega)); refine Fr.up ?_ (by first | rfl | (unfold jcE; simp; try omega)); refine Fr.up ?_ (by first | rfl | (unfold jcE; simp; try omega)); exact (Fr.rf)
  · omega
  · first | exact PS_init (by omega) (by omega) | (rw [show w = 1 by omega]; exact PS_open (by rw [show (1 : Int) = w by omega]; exact hx22_0) (by omega) (by omega)) | exact hps97 | exact PS_join hp124 (by omega) (by omega) | (rw [show w = 0 by omega]; exact hp226)
  · intro j hj; first | (simp only [up_same, up_cell, up_slot, ne_eq, not_false_eq_true, Nat.reduceEqDiff, Int.reduceEq, reduceCtorEq, Nat.reduceAdd, Int.reduceAdd, Int.reduceSub]; done) | (simp only [up_same, up_cell, up_slot, ne_eq, not_false_eq_true, Nat.reduceEqDiff, Int.reduceEq, reduceCtorEq, Nat.reduceAdd, Int.reduceAdd, Int.reduceSub]; exact hx22_1 j hj) | exact (hk97 j hj).trans (hx22_1 j hj) | (simp only [up_same, up_cell, up_slot, ne_eq, not_false_eq_true, Nat.reduceEqDiff, Int.reduceEq, reduceCtorEq, Nat.reduceAdd, Int.reduceAdd, Int.reduceSub]; exact (hk124 j hj).trans (hx22_1 j hj)) | (rw [hk226 j hj]; (try simp only [up_same, up_cell, up_slot, ne_eq, not_false_eq_true, Nat.reduceEqDiff, Int.reduceEq, reduceCtorEq, Nat.reduceAdd, Int.reduceAdd, Int.reduceSub]); exact (hk165 j hj).trans (hx22_1 j hj)) | (simp only [up_same, up_cell, up_slot, ne_eq, not_false_eq_true, Nat.reduceEqDiff, Int.reduceEq, reduceCtorEq, Nat.reduceAdd, Int.reduceAdd, Int.reduceSub]; exact (hk165 j hj).trans (hx22_1 j hj)) | exact hx22_1 j hj
  · first | (simp only [up_same, up_cell, up_slot, ne_eq, not_false_eq_true, Nat.reduceEqDiff, Int.reduceEq, reduceCtorEq, Nat.reduceAdd, Int.reduceAdd, Int.reduceSub]; done) | (simp only [up_same, up_cell, up_slot, ne_eq, not_false_eq_true, Nat.reduceEqDiff, Int.reduceEq, reduceCtorEq, Nat.reduceAdd, Int.reduceAdd, Int.reduceSub]; exact hx22_2) | (rw [hG97 82 c rfl]; exact hx22_2) | (simp only [up_same, up_cell, up_slot, ne_eq, not_false_eq_true, Nat.reduceEqDiff, Int.reduceEq, reduceCtorEq, Nat.reduceAdd, Int.reduceAdd, Int.reduceSub]; rw [hG124 82 c rfl]; exact hx22_2) | (rw [hG226 82 c rfl]; simp only [up_same, up_cell, up_slot, ne_eq, not_false_eq_true, Nat.reduceEqDiff, Int.reduceEq, reduceCtorEq, Nat.reduceAdd, Int.reduceAdd, Int.reduceSub]; rw [hG165 82 c rfl]; exact hx22_2) | (rw [hG226 82 c rfl]; rw [hG165 82 c rfl]; exact hx22_2) | (simp only [up_same, up_cell, up_slot, ne_eq, not_false_eq_true, Nat.reduceEqDiff, Int.reduceEq, reduceCtorEq, Nat.reduceAdd, Int.reduceAdd, Int.reduceSub]; rw [hG165 82 c rfl]; exact hx22_2) | exact hx22_2
  · first | omega | (simp only [up_same, up_cell, up_slot, ne_eq, not_false_eq_true, Nat.reduceEqDiff, Int.reduceEq, reduceCtorEq, Nat.reduceAdd, Int.reduceAdd, Int.reduceSub]; omega)
  · intro j hj; exact ⟨by first | (simp only [up_same, up_cell, up_slot, ne_eq, not_false_eq_true, Nat.reduceEqDiff, Int.reduceEq, reduceCtorEq, Nat.reduceAdd, Int.reduceAdd, Int.reduceSub, hj]; done) | (simp only [up_same, up_cell, up_slot, ne_eq, not_false_eq_true, Nat.reduceEqDiff, Int.reduceEq, reduceCtorEq, Nat.reduceAdd, Int.reduceAdd, Int.reduceSub, hj]; exact (hx22_4 j hj).1) | (rw [hG97 82 j rfl]; exact (hx22_4 j hj).1) | (simp only [up_same, up_cell, up_slot, ne_eq, not_false_eq_true, Nat.reduceEqDiff, Int.reduceEq, reduceCtorEq, Nat.reduceAdd, Int.reduceAdd, Int.reduceSub, hj]; rw [hG124 82 j rfl]; exact (hx22_4 j hj).1) | (rw [hG226 82 j rfl]; simp only [up_same, up_cell, up_slot, ne_eq, not_false_eq_true, Nat.reduceEqDiff, Int.reduceEq, reduceCtorEq, Nat.reduceAdd, Int.reduceAdd, Int.reduceSub, hj]; rw [hG165 82 j rfl]; exact (hx22_4 j hj).1) | (rw [hG226 82 j rfl]; rw [hG165 82 j rfl]; exact (hx22_4 j hj).1) | (simp only [up_same, up_cell, up_slot, ne_eq, not_false_eq_true, Nat.reduceEqDiff, Int.reduceEq, reduceCtorEq, Nat.reduceAdd, Int.reduceAdd, Int.reduceSub, hj]; rw [hG165 82 j rfl]; exact (hx22_4 j hj).1) | exact (hx22_4 j hj).1, by first | (simp only [up_same, up_cell, up_slot, ne_eq, not_false_eq_true, Nat.reduceEqDiff, Int.reduceEq, reduceCtorEq, Nat.reduceAdd, Int.reduceAdd, Int.reduceSub, hj]; done) | (simp only [up_same, up_cell, up_slot, ne_eq, not_false_eq_true, Nat.reduceEqDiff, Int.reduceEq, reduceCtorEq, Nat.reduceAdd, Int.reduceAdd, Int.reduceSub, hj]; exact (hx22_4 j hj).2) | (rw [hG97 83 j rfl]; exact (hx22_4 j hj).2) | (simp only [up_same, up_cell, up_slot, ne_eq, not_false_eq_true, Nat.reduceEqDiff, Int.reduceEq, reduceCtorEq, Nat.reduceAdd, Int.reduceAdd, Int.reduceSub, hj]; rw [hG124 83 j rfl]; exact (hx22_4 j hj).2) | (rw [hG226 83 j rfl]; simp only [up_same, up_cell, up_slot, ne_eq, not_false_eq_true, Nat.reduceEqDiff, Int.reduceEq, reduceCtorEq, Nat.reduceAdd, Int.reduceAdd, Int.reduceSub, hj]; rw [hG165 83 j rfl]; exact (hx22_4 j hj).2) | (rw [hG226 83 j rfl]; rw [hG165 83 j rfl]; exact (hx22_4 j hj).2) | (simp only [up_same, up_cell, up_slot, ne_eq, not_false_eq_true, Nat.reduceEqDiff, Int.reduceEq, reduceCtorEq, Nat.reduceAdd, Int.reduceAdd, Int.reduceSub, hj]; rw [hG165 83 j rfl]; exact (hx22_4 j hj).2) | exact (hx22_4 j hj).2⟩
set_option maxHeartbeats 4000000 in
set_option maxRecDepth 20000 in
theorem c_X11_takesHead (Γ : KT) (t : Nat) (σ : Nat → Int → Int) (c : Int) (hI : InvJ σ) (hc : 0 ≤ c ∧ c < 60) : Ct Γ mX11_takesHead 4 (0, 0) [vR Γ 69, vI c] (113, ρT t, σ) (pI 113 (ρT t) (fun r σ' => (0 ≤ r ∧ r ≤ 1) ∧ (σ 69 13 ≤ σ' 69 13) ∧ (∀ j, j ≠ c → σ' 80 j = σ 80 j) ∧ (InvJ σ') ∧ (Fr jcHd σ σ'))) := by
  refine Ct.of rfl (Nat.le_of_ble_eq_true rfl) ?_
  show G Γ mX11_takesHead 4 (0, 0) _ (0, 0) 0 [some (vR Γ 69), some (vI c)] [] (113, ρT t, σ)
  refine g_aload_n (M := mX11_takesHead) (pc := 0) dX11_takesHead_0 rfl (k := ?_)
  refine g_cV0I (M := mX11_takesHead) (pc := 1) (c_X11_peek Γ t _ hI) qX11_peek vX11_peek sX11_peek kX11_239 dX11_takesHead_1 (kk := ?_)
  rintro r1 _ ⟨hd1, hi1, e⟩; rw [e]; clear e
  have hb1_69 := jv69_12 hI 12 (by omega) (by omega)
  have hb1_69 := jv69_13 hI 13 (by omega) (by omega)
  by_cases hc4_0 : r1 = 99
  · refine g_lookup (M := mX11_takesHead) (pc := 4) (tgt := 32) (off := 28) (by omega) dX11_takesHead_4 rfl (by rw [hc4_0]; rfl) (k := ?_)
    refine g_aload_n (M := mX11_takesHead) (pc := 32) dX11_takesHead_32 rfl (k := ?_)
    refine g_getr (M := mX11_takesHead) (pc := 33) (by rfl) fX11_17 kX11_62 dX11_takesHead_33 (by rfl) (kk := ?_)
    refine g_iload_n (M := mX11_takesHead) (pc := 36) dX11_takesHead_36 rfl (k := ?_)
    refine g_iconst (M := mX11_takesHead) (pc := 37) dX11_takesHead_37 (k := ?_)
    refine g_iast (M := mX11_takesHead) (pc := 38) (by rfl) (by omega) (by omega) (by omega) dX11_takesHead_38 (kk := ?_)
    refine g_aload_n (M := mX11_takesHead) (pc := 39) dX11_takesHead_39 rfl (k := ?_)
    refine g_iconst (M := mX11_takesHead) (pc := 40) dX11_takesHead_40 (k := ?_)
    refine g_iconst (M := mX11_takesHead) (pc := 41) dX11_takesHead_41 (k := ?_)
    refine g_cV2I (M := mX11_takesHead) (pc := 42) (c_X11_takesWord Γ t _ _ _ (by refine jv_cell ?_ (by rfl); exact hI) (by first | omega | (simp only [up_same, up_cell, up_slot, ne_eq, not_false_eq_true, Nat.reduceEqDiff, Int.reduceEq, reduceCtorEq, Nat.reduceAdd, Int.reduceAdd, Int.reduceSub]; done) | (simp only [up_same, up_cell, up_slot, ne_eq, not_false_eq_true, Nat.reduceEqDiff, Int.reduceEq, reduceCtorEq, Nat.reduceAdd, Int.reduceAdd, Int.reduceSub]; omega)) (by first | omega | (simp only [up_same, up_cell, up_slot, ne_eq, not_false_eq_true, Nat.reduceEqDiff, Int.reduceEq, reduceCtorEq, Nat.reduceAdd, Int.reduceAdd, Int.reduceSub]; done) | (simp only [up_same, up_cell, up_slot, ne_eq, not_false_eq_true, Nat.reduceEqDiff, Int.reduceEq, reduceCtorEq, Nat.reduceAdd, Int.reduceAdd, Int.reduceSub]; omega)) (by first | omega | (simp only [up_same, up_cell, up_slot, ne_eq, not_false_eq_true, Nat.reduceEqDiff, Int.reduceEq, reduceCtorEq, Nat.reduceAdd, Int.reduceAdd, Int.reduceSub]; done) | (simp only [up_same, up_cell, up_slot, ne_eq, not_false_eq_true, Nat.reduceEqDiff, Int.reduceEq, reduceCtorEq, Nat.reduceAdd, Int.reduceAdd, Int.reduceSub]; omega))) qX11_takesWord vX11_takesWord sX11_takesWord kX11_270 dX11_takesHead_42 (kk := ?_)
    rintro r42 τ42 ⟨hi42, hm42, hI42, hG42⟩
    try simp only [up_same, up_cell, up_slot, ne_eq, not_false_eq_true, Nat.reduceEqDiff, Int.reduceEq, reduceCtorEq, Nat.reduceAdd, Int.reduceAdd, Int.reduceSub] at hi42 hm42
    have hF42 : Fr jcHd σ τ42 := by refine Fr.tr ?_ (Fr.mono hG42 sb_jcA_jcHd); refine Fr.up ?_ (by first | rfl | (unfold jcHd; simp; try omega)); exact (Fr.rf)
    refine g_zret (M := mX11_takesHead) (pc := 45) (by first | omega | (unfold b2; split <;> omega)) rfl dX11_takesHead_45 rfl ⟨_, _, rfl, rfl, ?_⟩
    refine ⟨?_, ?_, ?_, ?_, ?_⟩
    · omega
    · first | omega | (simp [up]; done) | (simp [up]; omega)
    · intro j hj; first | exact (hG42 80 j rfl).trans (up_slot hj) | exact (hG56 80 j rfl).trans (up_slot hj) | exact (hG71 80 j rfl).trans (up_slot hj)
    · exact hI42
    · exact hF42
  by_cases hc4_1 : r1 = 119
  · refine g_lookup (M := mX11_takesHead) (pc := 4) (tgt := 46) (off := 42) (by omega) dX11_takesHead_4 rfl (by rw [hc4_1]; rfl) (k := ?_)
    refine g_aload_n (M := mX11_takesHead) (pc := 46) dX11_takesHead_46 rfl (k := ?_)
    refine g_getr (M := mX11_takesHead) (pc := 47) (by rfl) fX11_17 kX11_62 dX11_takesHead_47 (by rfl) (kk := ?_)
    refine g_iload_n (M := mX11_takesHead) (pc := 50) dX11_takesHead_50 rfl (k := ?_)
    refine g_iconst (M := mX11_takesHead) (pc := 51) dX11_takesHead_51 (k := ?_)
    refine g_iast (M := mX11_takesHead) (pc := 52) (by rfl) (by omega) (by omega) (by omega) dX11_takesHead_52 (kk := ?_)
    refine g_aload_n (M := mX11_takesHead) (pc := 53) dX11_takesHead_53 rfl (k := ?_)
    refine g_iconst (M := mX11_takesHead) (pc := 54) dX11_takesHead_54 (k := ?_)
    refine g_iconst (M := mX11_takesHead) (pc := 55) dX11_takesHead_55 (k := ?_)
    refine g_cV2I (M := mX11_takesHead) (pc := 56) (c_X11_takesWord Γ t _ _ _ (by refine jv_cell ?_ (by rfl); exact hI) (by first | omega | (simp only [up_same, up_cell, up_slot, ne_eq, not_false_eq_true, Nat.reduceEqDiff, Int.reduceEq, reduceCtorEq, Nat.reduceAdd, Int.reduceAdd, Int.reduceSub]; done) | (simp only [up_same, up_cell, up_slot, ne_eq, not_false_eq_true, Nat.reduceEqDiff, Int.reduceEq, reduceCtorEq, Nat.reduceAdd, Int.reduceAdd, Int.reduceSub]; omega)) (by first | omega | (simp only [up_same, up_cell, up_slot, ne_eq, not_false_eq_true, Nat.reduceEqDiff, Int.reduceEq, reduceCtorEq, Nat.reduceAdd, Int.reduceAdd, Int.reduceSub]; done) | (simp only [up_same, up_cell, up_slot, ne_eq, not_false_eq_true, Nat.reduceEqDiff, Int.reduceEq, reduceCtorEq, Nat.reduceAdd, Int.reduceAdd, Int.reduceSub]; omega)) (by first | omega | (simp only [up_same, up_cell, up_slot, ne_eq, not_false_eq_true, Nat.reduceEqDiff, Int.reduceEq, reduceCtorEq, Nat.reduceAdd, Int.reduceAdd, Int.reduceSub]; done) | (simp only [up_same, up_cell, up_slot, ne_eq, not_false_eq_true, Nat.reduceEqDiff, Int.reduceEq, reduceCtorEq, Nat.reduceAdd, Int.reduceAdd, Int.reduceSub]; omega))) qX11_takesWord vX11_takesWord sX11_takesWord kX11_270 dX11_takesHead_56 (kk := ?_)
    rintro r56 τ56 ⟨hi56, hm56, hI56, hG56⟩
    try simp only [up_same, up_cell, up_slot, ne_eq, not_false_eq_true, Nat.reduceEqDiff, Int.reduceEq, reduceCtorEq, Nat.reduceAdd, Int.reduceAdd, Int.reduceSub] at hi56 hm56
    have hF56 : Fr jcHd σ τ56 := by refine Fr.tr ?_ (Fr.mono hG56 sb_jcA_jcHd); refine Fr.up ?_ (by first | rfl | (unfold jcHd; simp; try omega)); exact (Fr.rf)
    refine g_zret (M := mX11_takesHead) (pc := 59) (by first | omega | (unfold b2; split <;> omega)) rfl dX11_takesHead_59 rfl ⟨_, _, rfl, rfl, ?_⟩
    refine ⟨?_, ?_, ?_, ?_, ?_⟩
    · omega
    · first | omega | (simp [up]; done) | (simp [up]; omega)
    · intro j hj; first | exact (hG42 80 j rfl).trans (up_slot hj) | exact (hG56 80 j rfl).trans (up_slot hj) | exact (hG71 80 j rfl).trans (up_slot hj)
    · exact hI56
    · exact hF56
  refine g_lookup (M := mX11_takesHead) (pc := 4) (tgt := 60) (off := 56) (by omega) dX11_takesHead_4 rfl (by simp [Op.lookupswitch.offset, Ne.symm hc4_0, hc4_0, Ne.symm hc4_1, hc4_1]) (k := ?_)
  refine g_aload_n (M := mX11_takesHead) (pc := 60) dX11_takesHead_60 rfl (k := ?_)
  refine g_getr (M := mX11_takesHead) (pc := 61) (by rfl) fX11_17 kX11_62 dX11_takesHead_61 (by rfl) (kk := ?_)
  refine g_iload_n (M := mX11_takesHead) (pc := 64) dX11_takesHead_64 rfl (k := ?_)
  refine g_iconst (M := mX11_takesHead) (pc := 65) dX11_takesHead_65 (k := ?_)
  refine g_iast (M := mX11_takesHead) (pc := 66) (by rfl) (by omega) (by omega) (by omega) dX11_takesHead_66 (kk := ?_)
  refine g_aload_n (M := mX11_takesHead) (pc := 67) dX11_takesHead_67 rfl (k := ?_)
  refine g_bipush (M := mX11_takesHead) (pc := 68) dX11_takesHead_68 (k := ?_)
  refine g_iconst (M := mX11_takesHead) (pc := 70) dX11_takesHead_70 (k := ?_)
  refine g_cV2I (M := mX11_takesHead) (pc := 71) (c_X11_takesWord Γ t _ _ _ (by refine jv_cell ?_ (by rfl); exact hI) (by first | omega | (simp only [up_same, up_cell, up_slot, ne_eq, not_false_eq_true, Nat.reduceEqDiff, Int.reduceEq, reduceCtorEq, Nat.reduceAdd, Int.reduceAdd, Int.reduceSub]; done) | (simp only [up_same, up_cell, up_slot, ne_eq, not_false_eq_true, Nat.reduceEqDiff, Int.reduceEq, reduceCtorEq, Nat.reduceAdd, Int.reduceAdd, Int.reduceSub]; omega)) (by first | omega | (simp only [up_same, up_cell, up_slot, ne_eq, not_false_eq_true, Nat.reduceEqDiff, Int.reduceEq, reduceCtorEq, Nat.reduceAdd, Int.reduceAdd, Int.reduceSub]; done) | (simp only [up_same, up_cell, up_slot, ne_eq, not_false_eq_true, Nat.reduceEqDiff, Int.reduceEq, reduceCtorEq, Nat.reduceAdd, Int.reduceAdd, Int.reduceSub]; omega)) (by first | omega | (simp only [up_same, up_cell, up_slot, ne_eq, not_false_eq_true, Nat.reduceEqDiff, Int.reduceEq, reduceCtorEq, Nat.reduceAdd, Int.reduceAdd, Int.reduceSub]; done) | (simp only [up_same, up_cell, up_slot, ne_eq, not_false_eq_true, Nat.reduceEqDiff, Int.reduceEq, reduceCtorEq, Nat.reduceAdd, Int.reduceAdd, Int.reduceSub]; omega))) qX11_takesWord vX11_takesWord sX11_takesWord kX11_270 dX11_takesHead_71 (kk := ?_)
  rintro r71 τ71 ⟨hi71, hm71, hI71, hG71⟩
  try simp only [up_same, up_cell, up_slot, ne_eq, not_false_eq_true, Nat.reduceEqDiff, Int.reduceEq, reduceCtorEq, Nat.reduceAdd, Int.reduceAdd, Int.reduceSub] at hi71 hm71
  have hF71 : Fr jcHd σ τ71 := by refine Fr.tr ?_ (Fr.mono hG71 sb_jcA_jcHd); refine Fr.up ?_ (by first | rfl | (unfold jcHd; simp; try omega)); exact (Fr.rf)
  refine g_zret (M := mX11_takesHead) (pc := 74) (by first | omega | (unfold b2; split <;> omega)) rfl dX11_takesHead_74 rfl ⟨_, _, rfl, rfl, ?_⟩
  refine ⟨?_, ?_, ?_, ?_, ?_⟩
  · omega
  · first | omega | (simp [up]; done) | (simp [up]; omega)
  · intro j hj; first | exact (hG42 80 j rfl).trans (up_slot hj) | exact (hG56 80 j rfl).trans (up_slot hj) | exact (hG71 80 j rfl).trans (up_slot hj)
  · exact hI71
  · exact hF71
set_option maxHeartbeats 4000000 in
set_option maxRecDepth 20000 in
theorem c_X11_takesClause (Γ : KT) (t : Nat) (σ : Nat → Int → Int) (bb : Int) (c : Int) (hI : InvJ σ) (hc : 0 ≤ c ∧ c < 60) (hbb : 0 ≤ bb ∧ bb ≤ 500) (hs : bb ≤ σ 69 23 ∧ σ 69 23 ≤ bb + σ 69 13) : Ct Γ mX11_takesClause 6 (0, 0) [vR Γ 69, vI c] (113, ρT t, σ) (pI 113 (ρT t) (fun r σ' => ((r = 0 ∨ (r = 1 ∧ σ 69 23 ≤ σ' 69 23 ∧ σ' 69 23 ≤ bb + σ' 69 13 ∧ (σ' 80 c = 2 ∨ (σ' 82 c = σ 69 23 ∧ σ' 83 c ≤ bb + 100 ∧ okS (σ' 84) (σ' 82 c) (σ' 83 c - σ' 82 c).toNat ∧ σ' 83 c ≤ σ' 69 23))))) ∧ (∀ j, j < σ 69 23 → σ' 84 j = σ 84 j) ∧ (∀ j, j ≠ c → σ' 80 j = σ 80 j ∧ σ' 82 j = σ 82 j ∧ σ' 83 j = σ 83 j) ∧ (InvJ σ') ∧ (Fr jcL σ σ'))) := by
  refine Ct.of rfl (Nat.le_of_ble_eq_true rfl) ?_
  show G Γ mX11_takesClause 6 (0, 0) _ (0, 0) 0 [some (vR Γ 69), some (vI c)] [] (113, ρT t, σ)
  refine g_aload_n (M := mX11_takesClause) (pc := 0) dX11_takesClause_0 rfl (k := ?_)
  refine g_iload_n (M := mX11_takesClause) (pc := 1) dX11_takesClause_1 rfl (k := ?_)
  refine g_cV1I (M := mX11_takesClause) (pc := 2) (c_X11_takesHead Γ t _ _ hI (by omega)) qX11_takesHead vX11_takesHead sX11_takesHead kX11_274 dX11_takesClause_2 (kk := ?_)
  rintro r2 τ2 ⟨hi2, hm2, ho2, hI2, hG2⟩
  have hk2_69_23 := hG2 69 23 rfl
  have hF2 : Fr jcL σ τ2 := by refine Fr.tr ?_ (Fr.mono hG2 sb_jcHd_jcL); exact (Fr.rf)
  refine g_if_eq (M := mX11_takesClause) (pc := 5) (tgt := 15) (by omega) dX11_takesClause_5 (k1 := fun h5 => ?_) (k2 := fun h5 => ?_)
  · skip
    refine g_iconst (M := mX11_takesClause) (pc := 15) dX11_takesClause_15 (k := ?_)
    refine g_zret (M := mX11_takesClause) (pc := 16) (by first | omega | (unfold b2; split <;> omega)) rfl dX11_takesClause_16 rfl ⟨_, _, rfl, rfl, ?_⟩
    refine ⟨?_, ?_, ?_, ?_, ?_⟩
    · first | exact Or.inl rfl | exact Or.inr ⟨rfl, by first | omega | (simp [up]; done) | (simp [up]; omega), by first | omega | (simp [up]; done) | (simp [up]; omega), Or.inl (by first | omega | (simp [up]; done) | (simp [up]; omega))⟩ | (have z := hr48.resolve_left h51; exact Or.inr ⟨rfl, by omega, by omega, Or.inr ⟨by omega, z.2.2.1, z.2.2.2.1, z.2.2.2.2.2.2⟩⟩)
    · intro j hj; first | exact hG2 84 j rfl | exact (hG9 84 j rfl).trans (hG2 84 j rfl) | (simp only [up_same, up_cell, up_slot, ne_eq, not_false_eq_true, Nat.reduceEqDiff, Int.reduceEq, reduceCtorEq, Nat.reduceAdd, Int.reduceAdd, Int.reduceSub]; exact (hG9 84 j rfl).trans (hG2 84 j rfl)) | (rw [hG40 84 j rfl]; simp only [up_same, up_cell, up_slot, ne_eq, not_false_eq_true, Nat.reduceEqDiff, Int.reduceEq, reduceCtorEq, Nat.reduceAdd, Int.reduceAdd, Int.reduceSub]; exact (hG9 84 j rfl).trans (hG2 84 j rfl)) | (rw [hk48 j (by omega), hG40 84 j rfl]; simp only [up_same, up_cell, up_slot, ne_eq, not_false_eq_true, Nat.reduceEqDiff, Int.reduceEq, reduceCtorEq, Nat.reduceAdd, Int.reduceAdd, Int.reduceSub]; exact (hG9 84 j rfl).trans (hG2 84 j rfl))
    · intro j hj; exact ⟨by first | exact ho2 j hj | exact (hG9 80 j rfl).trans (ho2 j hj) | (simp only [up_same, up_cell, up_slot, ne_eq, not_false_eq_true, Nat.reduceEqDiff, Int.reduceEq, reduceCtorEq, Nat.reduceAdd, Int.reduceAdd, Int.reduceSub]; exact (hG9 80 j rfl).trans (ho2 j hj)) | (rw [hG40 80 j rfl]; simp only [up_same, up_cell, up_slot, ne_eq, not_false_eq_true, Nat.reduceEqDiff, Int.reduceEq, reduceCtorEq, Nat.reduceAdd, Int.reduceAdd, Int.reduceSub]; exact (hG9 80 j rfl).trans (ho2 j hj)) | (rw [hG48 80 j rfl, hG40 80 j rfl]; simp only [up_same, up_cell, up_slot, ne_eq, not_false_eq_true, Nat.reduceEqDiff, Int.reduceEq, reduceCtorEq, Nat.reduceAdd, Int.reduceAdd, Int.reduceSub]; exact (hG9 80 j rfl).trans (ho2 j hj)), by first | exact hG2 82 j rfl | exact (hG9 82 j rfl).trans (hG2 82 j rfl) | (simp only [up_same, up_cell, up_slot, ne_eq, not_false_eq_true, Nat.reduceEqDiff, Int.reduceEq, reduceCtorEq, Nat.reduceAdd, Int.reduceAdd, Int.reduceSub]; exact (hG9 82 j rfl).trans (hG2 82 j rfl)) | (rw [hG40 82 j rfl]; simp only [up_same, up_cell, up_slot, ne_eq, not_false_eq_true, Nat.reduceEqDiff, Int.reduceEq, reduceCtorEq, Nat.reduceAdd, Int.reduceAdd, Int.reduceSub]; exact (hG9 82 j rfl).trans (hG2 82 j rfl)) | (rw [(ho48 j hj).1, hG40 82 j rfl]; simp only [up_same, up_cell, up_slot, ne_eq, not_false_eq_true, Nat.reduceEqDiff, Int.reduceEq, reduceCtorEq, Nat.reduceAdd, Int.reduceAdd, Int.reduceSub]; exact (hG9 82 j rfl).trans (hG2 82 j rfl)), by first | exact hG2 83 j rfl | exact (hG9 83 j rfl).trans (hG2 83 j rfl) | (simp only [up_same, up_cell, up_slot, ne_eq, not_false_eq_true, Nat.reduceEqDiff, Int.reduceEq, reduceCtorEq, Nat.reduceAdd, Int.reduceAdd, Int.reduceSub]; exact (hG9 83 j rfl).trans (hG2 83 j rfl)) | (rw [hG40 83 j rfl]; simp only [up_same, up_cell, up_slot, ne_eq, not_false_eq_true, Nat.reduceEqDiff, Int.reduceEq, reduceCtorEq, Nat.reduceAdd, Int.reduceAdd, Int.reduceSub]; exact (hG9 83 j rfl).trans (hG2 83 j rfl)) | (rw [(ho48 j hj).2, hG40 83 j rfl]; simp only [up_same, up_cell, up_slot, ne_eq, not_false_eq_true, Nat.reduceEqDiff, Int.reduceEq, reduceCtorEq, Nat.reduceAdd, Int.reduceAdd, Int.reduceSub]; exact (hG9 83 j rfl).trans (hG2 83 j rfl))⟩
    · exact hI2
    · exact hF2
  · skip
    refine g_aload_n (M := mX11_takesClause) (pc := 8) dX11_takesClause_8 rfl (k := ?_)
    refine g_cV0I (M := mX11_takesClause) (pc := 9) (c_X11_takesNumber Γ t _ hI2) qX11_takesNumber vX11_takesNumber sX11_takesNumber kX11_258 dX11_takesClause_9 (kk := ?_)
    rintro r9 τ9 ⟨hi9, hm9, hI9, hG9⟩
    have hk9_69_23 := hG9 69 23 rfl
    have hk9_80_c := hG9 80 c rfl
    have hF9 : Fr jcL σ τ9 := by refine Fr.tr ?_ (Fr.mono hG9 sb_jcD_jcL); exact hF2
    refine g_if_ne (M := mX11_takesClause) (pc := 12) (tgt := 17) (by omega) dX11_takesClause_12 (k1 := fun h12 => ?_) (k2 := fun h12 => ?_)
    · skip
      refine g_aload_n (M := mX11_takesClause) (pc := 17) dX11_takesClause_17 rfl (k := ?_)
      refine g_getr (M := mX11_takesClause) (pc := 18) (by rfl) fX11_18 kX11_65 dX11_takesClause_18 (by rfl) (kk := ?_)
      refine g_iload_n (M := mX11_takesClause) (pc := 21) dX11_takesClause_21 rfl (k := ?_)
      refine g_aload_n (M := mX11_takesClause) (pc := 22) dX11_takesClause_22 rfl (k := ?_)
      refine g_get (M := mX11_takesClause) (pc := 23) (ji := 14) (by rfl) fX11_14 kX11_53 dX11_takesClause_23 (kk := fun hr23 => ?_)
      have hb23 := jv69_14 hI9 14 (by omega) (by omega)
      refine g_iast (M := mX11_takesClause) (pc := 26) (by rfl) (by omega) (by omega) (by omega) dX11_takesClause_26 (kk := ?_)
      refine g_aload_n (M := mX11_takesClause) (pc := 27) dX11_takesClause_27 rfl (k := ?_)
      refine g_getr (M := mX11_takesClause) (pc := 28) (by rfl) fX11_17 kX11_62 dX11_takesClause_28 (by rfl) (kk := ?_)
      refine g_iload_n (M := mX11_takesClause) (pc := 31) dX11_takesClause_31 rfl (k := ?_)
      refine g_iald (M := mX11_takesClause) (pc := 32) (by rfl) (by omega) (by omega) dX11_takesClause_32 (kk := fun hr32 => ?_)
      simp only [up_same, up_cell, up_slot, ne_eq, not_false_eq_true, Nat.reduceEqDiff, Int.reduceEq, reduceCtorEq, Nat.reduceAdd, Int.reduceAdd, Int.reduceSub] at hr32 ⊢
      refine g_iconst (M := mX11_takesClause) (pc := 33) dX11_takesClause_33 (k := ?_)
      refine g_icmp_eq (M := mX11_takesClause) (pc := 34) (tgt := 54) (by omega) (by omega) dX11_takesClause_34 (k1 := fun h34 => ?_) (k2 := fun h34 => ?_)
      · skip
        refine g_iconst (M := mX11_takesClause) (pc := 54) dX11_takesClause_54 (k := ?_)
        refine g_goto (M := mX11_takesClause) (pc := 55) (tgt := 59) dX11_takesClause_55 (k := ?_)
        refine g_zret (M := mX11_takesClause) (pc := 59) (by first | omega | (unfold b2; split <;> omega)) rfl dX11_takesClause_59 rfl ⟨_, _, rfl, rfl, ?_⟩
        refine ⟨?_, ?_, ?_, ?_, ?_⟩
        · first | exact Or.inl rfl | exact Or.inr ⟨rfl, by first | omega | (simp [up]; done) | (simp [up]; omega), by first | omega | (simp [up]; done) | (simp [up]; omega), Or.inl (by first | omega | (simp [up]; done) | (simp [up]; omega))⟩ | (have z := hr48.resolve_left h51; exact Or.inr ⟨rfl, by omega, by omega, Or.inr ⟨by omega, z.2.2.1, z.2.2.2.1, z.2.2.2.2.2.2⟩⟩)
        · intro j hj; first | exact hG2 84 j rfl | exact (hG9 84 j rfl).trans (hG2 84 j rfl) | (simp only [up_same, up_cell, up_slot, ne_eq, not_false_eq_true, Nat.reduceEqDiff, Int.reduceEq, reduceCtorEq, Nat.reduceAdd, Int.reduceAdd, Int.reduceSub]; exact (hG9 84 j rfl).trans (hG2 84 j rfl)) | (rw [hG40 84 j rfl]; simp only [up_same, up_cell, up_slot, ne_eq, not_false_eq_true, Nat.reduceEqDiff, Int.reduceEq, reduceCtorEq, Nat.reduceAdd, Int.reduceAdd, Int.reduceSub]; exact (hG9 84 j rfl).trans (hG2 84 j rfl)) | (rw [hk48 j (by omega), hG40 84 j rfl]; simp only [up_same, up_cell, up_slot, ne_eq, not_false_eq_true, Nat.reduceEqDiff, Int.reduceEq, reduceCtorEq, Nat.reduceAdd, Int.reduceAdd, Int.reduceSub]; exact (hG9 84 j rfl).trans (hG2 84 j rfl))
        · intro j hj; exact ⟨by first | exact ho2 j hj | exact (hG9 80 j rfl).trans (ho2 j hj) | (simp only [up_same, up_cell, up_slot, ne_eq, not_false_eq_true, Nat.reduceEqDiff, Int.reduceEq, reduceCtorEq, Nat.reduceAdd, Int.reduceAdd, Int.reduceSub]; exact (hG9 80 j rfl).trans (ho2 j hj)) | (rw [hG40 80 j rfl]; simp only [up_same, up_cell, up_slot, ne_eq, not_false_eq_true, Nat.reduceEqDiff, Int.reduceEq, reduceCtorEq, Nat.reduceAdd, Int.reduceAdd, Int.reduceSub]; exact (hG9 80 j rfl).trans (ho2 j hj)) | (rw [hG48 80 j rfl, hG40 80 j rfl]; simp only [up_same, up_cell, up_slot, ne_eq, not_false_eq_true, Nat.reduceEqDiff, Int.reduceEq, reduceCtorEq, Nat.reduceAdd, Int.reduceAdd, Int.reduceSub]; exact (hG9 80 j rfl).trans (ho2 j hj)), by first | exact hG2 82 j rfl | exact (hG9 82 j rfl).trans (hG2 82 j rfl) | (simp only [up_same, up_cell, up_slot, ne_eq, not_false_eq_true, Nat.reduceEqDiff, Int.reduceEq, reduceCtorEq, Nat.reduceAdd, Int.reduceAdd, Int.reduceSub]; exact (hG9 82 j rfl).trans (hG2 82 j rfl)) | (rw [hG40 82 j rfl]; simp only [up_same, up_cell, up_slot, ne_eq, not_false_eq_true, Nat.reduceEqDiff, Int.reduceEq, reduceCtorEq, Nat.reduceAdd, Int.reduceAdd, Int.reduceSub]; exact (hG9 82 j rfl).trans (hG2 82 j rfl)) | (rw [(ho48 j hj).1, hG40 82 j rfl]; simp only [up_same, up_cell, up_slot, ne_eq, not_false_eq_true, Nat.reduceEqDiff, Int.reduceEq, reduceCtorEq, Nat.reduceAdd, Int.reduceAdd, Int.reduceSub]; exact (hG9 82 j rfl).trans (hG2 82 j rfl)), by first | exact hG2 83 j rfl | exact (hG9 83 j rfl).trans (hG2 83 j rfl) | (simp only [up_same, up_cell, up_slot, ne_eq, not_false_eq_true, Nat.reduceEqDiff, Int.reduceEq, reduceCtorEq, Nat.reduceAdd, Int.reduceAdd, Int.reduceSub]; exact (hG9 83 j rfl).trans (hG2 83 j rfl)) | (rw [hG40 83 j rfl]; simp only [up_same, up_cell, up_slot, ne_eq, not_false_eq_true, Nat.reduceEqDiff, Int.reduceEq, reduceCtorEq, Nat.reduceAdd, Int.reduceAdd, Int.reduceSub]; exact (hG9 83 j rfl).trans (hG2 83 j rfl)) | (rw [(ho48 j hj).2, hG40 83 j rfl]; simp only [up_same, up_cell, up_slot, ne_eq, not_false_eq_true, Nat.reduceEqDiff, Int.reduceEq, reduceCtorEq, Nat.reduceAdd, Int.reduceAdd, Int.reduceSub]; exact (hG9 83 j rfl).trans (hG2 83 j rfl))⟩
        · refine jvu81 ?_ (by omega) (by omega); exact hI9
        · refine Fr.up ?_ (by first | rfl | (unfold jcL; simp; try omega)); exact hF9
      · skip
        refine g_aload_n (M := mX11_takesClause) (pc := 37) dX11_takesClause_37 rfl (k := ?_)
        refine g_bipush (M := mX11_takesClause) (pc := 38) dX11_takesClause_38 (k := ?_)
        refine g_cV1I (M := mX11_takesClause) (pc := 40) (c_X11_takes Γ t _ _ (by refine jvu81 ?_ (by omega) (by omega); exact hI9) (by first | omega | (simp only [up_same, up_cell, up_slot, ne_eq, not_false_eq_true, Nat.reduceEqDiff, Int.reduceEq, reduceCtorEq, Nat.reduceAdd, Int.reduceAdd, Int.reduceSub]; done) | (simp only [up_same, up_cell, up_slot, ne_eq, not_false_eq_true, Nat.reduceEqDiff, Int.reduceEq, reduceCtorEq, Nat.reduceAdd, Int.reduceAdd, Int.reduceSub]; omega))) qX11_takes vX11_takes sX11_takes kX11_243 dX11_takesClause_40 (kk := ?_)
        rintro r40 τ40 ⟨ht40, hI40, hG40⟩
        try simp only [up_same, up_cell, up_slot, ne_eq, not_false_eq_true, Nat.reduceEqDiff, Int.reduceEq, reduceCtorEq, Nat.reduceAdd, Int.reduceAdd, Int.reduceSub] at ht40
        have hk40_69_23 := hG40 69 23 rfl
        simp only [up_same, up_cell, up_slot, ne_eq, not_false_eq_true, Nat.reduceEqDiff, Int.reduceEq, reduceCtorEq, Nat.reduceAdd, Int.reduceAdd, Int.reduceSub] at hk40_69_23
        have hF40 : Fr jcL σ τ40 := by refine Fr.tr ?_ (Fr.mono hG40 sb_jcA_jcL); refine Fr.up ?_ (by first | rfl | (unfold jcL; simp; try omega)); exact hF9
        refine g_if_eq (M := mX11_takesClause) (pc := 43) (tgt := 58) (by omega) dX11_takesClause_43 (k1 := fun h43 => ?_) (k2 := fun h43 => ?_)
        · skip
          refine g_iconst (M := mX11_takesClause) (pc := 58) dX11_takesClause_58 (k := ?_)
          refine g_zret (M := mX11_takesClause) (pc := 59) (by first | omega | (unfold b2; split <;> omega)) rfl dX11_takesClause_59 rfl ⟨_, _, rfl, rfl, ?_⟩
          refine ⟨?_, ?_, ?_, ?_, ?_⟩
          · first | exact Or.inl rfl | exact Or.inr ⟨rfl, by first | omega | (simp [up]; done) | (simp [up]; omega), by first | omega | (simp [up]; done) | (simp [up]; omega), Or.inl (by first | omega | (simp [up]; done) | (simp [up]; omega))⟩ | (have z := hr48.resolve_left h51; exact Or.inr ⟨rfl, by omega, by omega, Or.inr ⟨by omega, z.2.2.1, z.2.2.2.1, z.2.2.2.2.2.2⟩⟩)
          · intro j hj; first | exact hG2 84 j rfl | exact (hG9 84 j rfl).trans (hG2 84 j rfl) | (simp only [up_same, up_cell, up_slot, ne_eq, not_false_eq_true, Nat.reduceEqDiff, Int.reduceEq, reduceCtorEq, Nat.reduceAdd, Int.reduceAdd, Int.reduceSub]; exact (hG9 84 j rfl).trans (hG2 84 j rfl)) | (rw [hG40 84 j rfl]; simp only [up_same, up_cell, up_slot, ne_eq, not_false_eq_true, Nat.reduceEqDiff, Int.reduceEq, reduceCtorEq, Nat.reduceAdd, Int.reduceAdd, Int.reduceSub]; exact (hG9 84 j rfl).trans (hG2 84 j rfl)) | (rw [hk48 j (by omega), hG40 84 j rfl]; simp only [up_same, up_cell, up_slot, ne_eq, not_false_eq_true, Nat.reduceEqDiff, Int.reduceEq, reduceCtorEq, Nat.reduceAdd, Int.reduceAdd, Int.reduceSub]; exact (hG9 84 j rfl).trans (hG2 84 j rfl))
          · intro j hj; exact ⟨by first | exact ho2 j hj | exact (hG9 80 j rfl).trans (ho2 j hj) | (simp only [up_same, up_cell, up_slot, ne_eq, not_false_eq_true, Nat.reduceEqDiff, Int.reduceEq, reduceCtorEq, Nat.reduceAdd, Int.reduceAdd, Int.reduceSub]; exact (hG9 80 j rfl).trans (ho2 j hj)) | (rw [hG40 80 j rfl]; simp only [up_same, up_cell, up_slot, ne_eq, not_false_eq_true, Nat.reduceEqDiff, Int.reduceEq, reduceCtorEq, Nat.reduceAdd, Int.reduceAdd, Int.reduceSub]; exact (hG9 80 j rfl).trans (ho2 j hj)) | (rw [hG48 80 j rfl, hG40 80 j rfl]; simp only [up_same, up_cell, up_slot, ne_eq, not_false_eq_true, Nat.reduceEqDiff, Int.reduceEq, reduceCtorEq, Nat.reduceAdd, Int.reduceAdd, Int.reduceSub]; exact (hG9 80 j rfl).trans (ho2 j hj)), by first | exact hG2 82 j rfl | exact (hG9 82 j rfl).trans (hG2 82 j rfl) | (simp only [up_same, up_cell, up_slot, ne_eq, not_false_eq_true, Nat.reduceEqDiff, Int.reduceEq, reduceCtorEq, Nat.reduceAdd, Int.reduceAdd, Int.reduceSub]; exact (hG9 82 j rfl).trans (hG2 82 j rfl)) | (rw [hG40 82 j rfl]; simp only [up_same, up_cell, up_slot, ne_eq, not_false_eq_true, Nat.reduceEqDiff, Int.reduceEq, reduceCtorEq, Nat.reduceAdd, Int.reduceAdd, Int.reduceSub]; exact (hG9 82 j rfl).trans (hG2 82 j rfl)) | (rw [(ho48 j hj).1, hG40 82 j rfl]; simp only [up_same, up_cell, up_slot, ne_eq, not_false_eq_true, Nat.reduceEqDiff, Int.reduceEq, reduceCtorEq, Nat.reduceAdd, Int.reduceAdd, Int.reduceSub]; exact (hG9 82 j rfl).trans (hG2 82 j rfl)), by first | exact hG2 83 j rfl | exact (hG9 83 j rfl).trans (hG2 83 j rfl) | (simp only [up_same, up_cell, up_slot, ne_eq, not_false_eq_true, Nat.reduceEqDiff, Int.reduceEq, reduceCtorEq, Nat.reduceAdd, Int.reduceAdd, Int.reduceSub]; exact (hG9 83 j rfl).trans (hG2 83 j rfl)) | (rw [hG40 83 j rfl]; simp only [up_same, up_cell, up_slot, ne_eq, not_false_eq_true, Nat.reduceEqDiff, Int.reduceEq, reduceCtorEq, Nat.reduceAdd, Int.reduceAdd, Int.reduceSub]; exact (hG9 83 j rfl).trans (hG2 83 j rfl)) | (rw [(ho48 j hj).2, hG40 83 j rfl]; simp only [up_same, up_cell, up_slot, ne_eq, not_false_eq_true, Nat.reduceEqDiff, Int.reduceEq, reduceCtorEq, Nat.reduceAdd, Int.reduceAdd, Int.reduceSub]; exact (hG9 83 j rfl).trans (hG2 83 j rfl))⟩
          · exact hI40
          · exact hF40
        · skip
          refine g_aload_n (M := mX11_takesClause) (pc := 46) dX11_takesClause_46 rfl (k := ?_)
          refine g_iload_n (M := mX11_takesClause) (pc := 47) dX11_takesClause_47 rfl (k := ?_)
          refine g_cV1I (M := mX11_takesClause) (pc := 48) (c_X11_takesE Γ t _ bb _ hI40 (by omega) (by omega) (by omega)) qX11_takesE vX11_takesE sX11_takesE kX11_277 dX11_takesClause_48 (kk := ?_)
          rintro r48 τ48 ⟨hr48, hk48, ho48, hI48, hG48⟩
          have hF48 : Fr jcL σ τ48 := by refine Fr.tr ?_ (Fr.mono hG48 sb_jcE_jcL); exact hF40
          refine g_if_eq (M := mX11_takesClause) (pc := 51) (tgt := 58) (by omega) dX11_takesClause_51 (k1 := fun h51 => ?_) (k2 := fun h51 => ?_)
          · skip
            refine g_iconst (M := mX11_takesClause) (pc := 58) dX11_takesClause_58 (k := ?_)
            refine g_zret (M := mX11_takesClause) (pc := 59) (by first | omega | (unfold b2; split <;> omega)) rfl dX11_takesClause_59 rfl ⟨_, _, rfl, rfl, ?_⟩
            refine ⟨?_, ?_, ?_, ?_, ?_⟩
            · first | exact Or.inl rfl | exact Or.inr ⟨rfl, by first | omega | (simp [up]; done) | (simp [up]; omega), by first | omega | (simp [up]; done) | (simp [up]; omega), Or.inl (by first | omega | (simp [up]; done) | (simp [up]; omega))⟩ | (have z := hr48.resolve_left h51; exact Or.inr ⟨rfl, by omega, by omega, Or.inr ⟨by omega, z.2.2.1, z.2.2.2.1, z.2.2.2.2.2.2⟩⟩)
            · intro j hj; first | exact hG2 84 j rfl | exact (hG9 84 j rfl).trans (hG2 84 j rfl) | (simp only [up_same, up_cell, up_slot, ne_eq, not_false_eq_true, Nat.reduceEqDiff, Int.reduceEq, reduceCtorEq, Nat.reduceAdd, Int.reduceAdd, Int.reduceSub]; exact (hG9 84 j rfl).trans (hG2 84 j rfl)) | (rw [hG40 84 j rfl]; simp only [up_same, up_cell, up_slot, ne_eq, not_false_eq_true, Nat.reduceEqDiff, Int.reduceEq, reduceCtorEq, Nat.reduceAdd, Int.reduceAdd, Int.reduceSub]; exact (hG9 84 j rfl).trans (hG2 84 j rfl)) | (rw [hk48 j (by omega), hG40 84 j rfl]; simp only [up_same, up_cell, up_slot, ne_eq, not_false_eq_true, Nat.reduceEqDiff, Int.reduceEq, reduceCtorEq, Nat.reduceAdd, Int.reduceAdd, Int.reduceSub]; exact (hG9 84 j rfl).trans (hG2 84 j rfl))
            · intro j hj; exact ⟨by first | exact ho2 j hj | exact (hG9 80 j rfl).trans (ho2 j hj) | (simp only [up_same, up_cell, up_slot, ne_eq, not_false_eq_true, Nat.reduceEqDiff, Int.reduceEq, reduceCtorEq, Nat.reduceAdd, Int.reduceAdd, Int.reduceSub]; exact (hG9 80 j rfl).trans (ho2 j hj)) | (rw [hG40 80 j rfl]; simp only [up_same, up_cell, up_slot, ne_eq, not_false_eq_true, Nat.reduceEqDiff, Int.reduceEq, reduceCtorEq, Nat.reduceAdd, Int.reduceAdd, Int.reduceSub]; exact (hG9 80 j rfl).trans (ho2 j hj)) | (rw [hG48 80 j rfl, hG40 80 j rfl]; simp only [up_same, up_cell, up_slot, ne_eq, not_false_eq_true, Nat.reduceEqDiff, Int.reduceEq, reduceCtorEq, Nat.reduceAdd, Int.reduceAdd, Int.reduceSub]; exact (hG9 80 j rfl).trans (ho2 j hj)), by first | exact hG2 82 j rfl | exact (hG9 82 j rfl).trans (hG2 82 j rfl) | (simp only [up_same, up_cell, up_slot, ne_eq, not_false_eq_true, Nat.reduceEqDiff, Int.reduceEq, reduceCtorEq, Nat.reduceAdd, Int.reduceAdd, Int.reduceSub]; exact (hG9 82 j rfl).trans (hG2 82 j rfl)) | (rw [hG40 82 j rfl]; simp only [up_same, up_cell, up_slot, ne_eq, not_false_eq_true, Nat.reduceEqDiff, Int.reduceEq, reduceCtorEq, Nat.reduceAdd, Int.reduceAdd, Int.reduceSub]; exact (hG9 82 j rfl).trans (hG2 82 j rfl)) | (rw [(ho48 j hj).1, hG40 82 j rfl]; simp only [up_same, up_cell, up_slot, ne_eq, not_false_eq_true, Nat.reduceEqDiff, Int.reduceEq, reduceCtorEq, Nat.reduceAdd, Int.reduceAdd, Int.reduceSub]; exact (hG9 82 j rfl).trans (hG2 82 j rfl)), by first | exact hG2 83 j rfl | exact (hG9 83 j rfl).trans (hG2 83 j rfl) | (simp only [up_same, up_cell, up_slot, ne_eq, not_false_eq_true, Nat.reduceEqDiff, Int.reduceEq, reduceCtorEq, Nat.reduceAdd, Int.reduceAdd, Int.reduceSub]; exact (hG9 83 j rfl).trans (hG2 83 j rfl)) | (rw [hG40 83 j rfl]; simp only [up_same, up_cell, up_slot, ne_eq, not_false_eq_true, Nat.reduceEqDiff, Int.reduceEq, reduceCtorEq, Nat.reduceAdd, Int.reduceAdd, Int.reduceSub]; exact (hG9 83 j rfl).trans (hG2 83 j rfl)) | (rw [(ho48 j hj).2, hG40 83 j rfl]; simp only [up_same, up_cell, up_slot, ne_eq, not_false_eq_true, Nat.reduceEqDiff, Int.reduceEq, reduceCtorEq, Nat.reduceAdd, Int.reduceAdd, Int.reduceSub]; exact (hG9 83 j rfl).trans (hG2 83 j rfl))⟩
            · exact hI48
            · exact hF48
          · skip
            refine g_iconst (M := mX11_takesClause) (pc := 54) dX11_takesClause_54 (k := ?_)
            refine g_goto (M := mX11_takesClause) (pc := 55) (tgt := 59) dX11_takesClause_55 (k := ?_)
            refine g_zret (M := mX11_takesClause) (pc := 59) (by first | omega | (unfold b2; split <;> omega)) rfl dX11_takesClause_59 rfl ⟨_, _, rfl, rfl, ?_⟩
            refine ⟨?_, ?_, ?_, ?_, ?_⟩
            · first | exact Or.inl rfl | exact Or.inr ⟨rfl, by first | omega | (simp [up]; done) | (simp [up]; omega), by first | omega | (simp [up]; done) | (simp [up]; omega), Or.inl (by first | omega | (simp [up]; done) | (simp [up]; omega))⟩ | (have z := hr48.resolve_left h51; exact Or.inr ⟨rfl, by omega, by omega, Or.inr ⟨by omega, z.2.2.1, z.2.2.2.1, z.2.2.2.2.2.2⟩⟩)
            · intro j hj; first | exact hG2 84 j rfl | exact (hG9 84 j rfl).trans (hG2 84 j rfl) | (simp only [up_same, up_cell, up_slot, ne_eq, not_false_eq_true, Nat.reduceEqDiff, Int.reduceEq, reduceCtorEq, Nat.reduceAdd, Int.reduceAdd, Int.reduceSub]; exact (hG9 84 j rfl).trans (hG2 84 j rfl)) | (rw [hG40 84 j rfl]; simp only [up_same, up_cell, up_slot, ne_eq, not_false_eq_true, Nat.reduceEqDiff, Int.reduceEq, reduceCtorEq, Nat.reduceAdd, Int.reduceAdd, Int.reduceSub]; exact (hG9 84 j rfl).trans (hG2 84 j rfl)) | (rw [hk48 j (by omega), hG40 84 j rfl]; simp only [up_same, up_cell, up_slot, ne_eq, not_false_eq_true, Nat.reduceEqDiff, Int.reduceEq, reduceCtorEq, Nat.reduceAdd, Int.reduceAdd, Int.reduceSub]; exact (hG9 84 j rfl).trans (hG2 84 j rfl))
            · intro j hj; exact ⟨by first | exact ho2 j hj | exact (hG9 80 j rfl).trans (ho2 j hj) | (simp only [up_same, up_cell, up_slot, ne_eq, not_false_eq_true, Nat.reduceEqDiff, Int.reduceEq, reduceCtorEq, Nat.reduceAdd, Int.reduceAdd, Int.reduceSub]; exact (hG9 80 j rfl).trans (ho2 j hj)) | (rw [hG40 80 j rfl]; simp only [up_same, up_cell, up_slot, ne_eq, not_false_eq_true, Nat.reduceEqDiff, Int.reduceEq, reduceCtorEq, Nat.reduceAdd, Int.reduceAdd, Int.reduceSub]; exact (hG9 80 j rfl).trans (ho2 j hj)) | (rw [hG48 80 j rfl, hG40 80 j rfl]; simp only [up_same, up_cell, up_slot, ne_eq, not_false_eq_true, Nat.reduceEqDiff, Int.reduceEq, reduceCtorEq, Nat.reduceAdd, Int.reduceAdd, Int.reduceSub]; exact (hG9 80 j rfl).trans (ho2 j hj)), by first | exact hG2 82 j rfl | exact (hG9 82 j rfl).trans (hG2 82 j rfl) | (simp only [up_same, up_cell, up_slot, ne_eq, not_false_eq_true, Nat.reduceEqDiff, Int.reduceEq, reduceCtorEq, Nat.reduceAdd, Int.reduceAdd, Int.reduceSub]; exact (hG9 82 j rfl).trans (hG2 82 j rfl)) | (rw [hG40 82 j rfl]; simp only [up_same, up_cell, up_slot, ne_eq, not_false_eq_true, Nat.reduceEqDiff, Int.reduceEq, reduceCtorEq, Nat.reduceAdd, Int.reduceAdd, Int.reduceSub]; exact (hG9 82 j rfl).trans (hG2 82 j rfl)) | (rw [(ho48 j hj).1, hG40 82 j rfl]; simp only [up_same, up_cell, up_slot, ne_eq, not_false_eq_true, Nat.reduceEqDiff, Int.reduceEq, reduceCtorEq, Nat.reduceAdd, Int.reduceAdd, Int.reduceSub]; exact (hG9 82 j rfl).trans (hG2 82 j rfl)), by first | exact hG2 83 j rfl | exact (hG9 83 j rfl).trans (hG2 83 j rfl) | (simp only [up_same, up_cell, up_slot, ne_eq, not_false_eq_true, Nat.reduceEqDiff, Int.reduceEq, reduceCtorEq, Nat.reduceAdd, Int.reduceAdd, Int.reduceSub]; exact (hG9 83 j rfl).trans (hG2 83 j rfl)) | (rw [hG40 83 j rfl]; simp only [up_same, up_cell, up_slot, ne_eq, not_false_eq_true, Nat.reduceEqDiff, Int.reduceEq, reduceCtorEq, Nat.reduceAdd, Int.reduceAdd, Int.reduceSub]; exact (hG9 83 j rfl).trans (hG2 83 j rfl)) | (rw [(ho48 j hj).2, hG40 83 j rfl]; simp only [up_same, up_cell, up_slot, ne_eq, not_false_eq_true, Nat.reduceEqDiff, Int.reduceEq, reduceCtorEq, Nat.reduceAdd, Int.reduceAdd, Int.reduceSub]; exact (hG9 83 j rfl).trans (hG2 83 j rfl))⟩
            · exact hI48
            · exact hF48
    · skip
      refine g_iconst (M := mX11_takesClause) (pc := 15) dX11_takesClause_15 (k := ?_)
      refine g_zret (M := mX11_takesClause) (pc := 16) (by first | omega | (unfold b2; split <;> omega)) rfl dX11_takesClause_16 rfl ⟨_, _, rfl, rfl, ?_⟩
      refine ⟨?_, ?_, ?_, ?_, ?_⟩
      · first | exact Or.inl rfl | exact Or.inr ⟨rfl, by first | omega | (simp [up]; done) | (simp [up]; omega), by first | omega | (simp [up]; done) | (simp [up]; omega), Or.inl (by first | omega | (simp [up]; done) | (simp [up]; omega))⟩ | (have z := hr48.resolve_left h51; exact Or.inr ⟨rfl, by omega, by omega, Or.inr ⟨by omega, z.2.2.1, z.2.2.2.1, z.2.2.2.2.2.2⟩⟩)
      · intro j hj; first | exact hG2 84 j rfl | exact (hG9 84 j rfl).trans (hG2 84 j rfl) | (simp only [up_same, up_cell, up_slot, ne_eq, not_false_eq_true, Nat.reduceEqDiff, Int.reduceEq, reduceCtorEq, Nat.reduceAdd, Int.reduceAdd, Int.reduceSub]; exact (hG9 84 j rfl).trans (hG2 84 j rfl)) | (rw [hG40 84 j rfl]; simp only [up_same, up_cell, up_slot, ne_eq, not_false_eq_true, Nat.reduceEqDiff, Int.reduceEq, reduceCtorEq, Nat.reduceAdd, Int.reduceAdd, Int.reduceSub]; exact (hG9 84 j rfl).trans (hG2 84 j rfl)) | (rw [hk48 j (by omega), hG40 84 j rfl]; simp only [up_same, up_cell, up_slot, ne_eq, not_false_eq_true, Nat.reduceEqDiff, Int.reduceEq, reduceCtorEq, Nat.reduceAdd, Int.reduceAdd, Int.reduceSub]; exact (hG9 84 j rfl).trans (hG2 84 j rfl))
      · intro j hj; exact ⟨by first | exact ho2 j hj | exact (hG9 80 j rfl).trans (ho2 j hj) | (simp only [up_same, up_cell, up_slot, ne_eq, not_false_eq_true, Nat.reduceEqDiff, Int.reduceEq, reduceCtorEq, Nat.reduceAdd, Int.reduceAdd, Int.reduceSub]; exact (hG9 80 j rfl).trans (ho2 j hj)) | (rw [hG40 80 j rfl]; simp only [up_same, up_cell, up_slot, ne_eq, not_false_eq_true, Nat.reduceEqDiff, Int.reduceEq, reduceCtorEq, Nat.reduceAdd, Int.reduceAdd, Int.reduceSub]; exact (hG9 80 j rfl).trans (ho2 j hj)) | (rw [hG48 80 j rfl, hG40 80 j rfl]; simp only [up_same, up_cell, up_slot, ne_eq, not_false_eq_true, Nat.reduceEqDiff, Int.reduceEq, reduceCtorEq, Nat.reduceAdd, Int.reduceAdd, Int.reduceSub]; exact (hG9 80 j rfl).trans (ho2 j hj)), by first | exact hG2 82 j rfl | exact (hG9 82 j rfl).trans (hG2 82 j rfl) | (simp only [up_same, up_cell, up_slot, ne_eq, not_false_eq_true, Nat.reduceEqDiff, Int.reduceEq, reduceCtorEq, Nat.reduceAdd, Int.reduceAdd, Int.reduceSub]; exact (hG9 82 j rfl).trans (hG2 82 j rfl)) | (rw [hG40 82 j rfl]; simp only [up_same, up_cell, up_slot, ne_eq, not_false_eq_true, Nat.reduceEqDiff, Int.reduceEq, reduceCtorEq, Nat.reduceAdd, Int.reduceAdd, Int.reduceSub]; exact (hG9 82 j rfl).trans (hG2 82 j rfl)) | (rw [(ho48 j hj).1, hG40 82 j rfl]; simp only [up_same, up_cell, up_slot, ne_eq, not_false_eq_true, Nat.reduceEqDiff, Int.reduceEq, reduceCtorEq, Nat.reduceAdd, Int.reduceAdd, Int.reduceSub]; exact (hG9 82 j rfl).trans (hG2 82 j rfl)), by first | exact hG2 83 j rfl | exact (hG9 83 j rfl).trans (hG2 83 j rfl) | (simp only [up_same, up_cell, up_slot, ne_eq, not_false_eq_true, Nat.reduceEqDiff, Int.reduceEq, reduceCtorEq, Nat.reduceAdd, Int.reduceAdd, Int.reduceSub]; exact (hG9 83 j rfl).trans (hG2 83 j rfl)) | (rw [hG40 83 j rfl]; simp only [up_same, up_cell, up_slot, ne_eq, not_false_eq_true, Nat.reduceEqDiff, Int.reduceEq, reduceCtorEq, Nat.reduceAdd, Int.reduceAdd, Int.reduceSub]; exact (hG9 83 j rfl).trans (hG2 83 j rfl)) | (rw [(ho48 j hj).2, hG40 83 j rfl]; simp only [up_same, up_cell, up_slot, ne_eq, not_false_eq_true, Nat.reduceEqDiff, Int.reduceEq, reduceCtorEq, Nat.reduceAdd, Int.reduceAdd, Int.reduceSub]; exact (hG9 83 j rfl).trans (hG2 83 j rfl))⟩
      · exact hI9
      · exact hF9
set_option maxHeartbeats 4000000 in
set_option maxRecDepth 20000 in
theorem c_X11_goesText (Γ : KT) (t : Nat) (σ : Nat → Int → Int) (f : Int) (hI : InvJ σ) (hf : 0 ≤ f ∧ f < 6) : Ct Γ mX11_goesText 7 (0, 0) [vR Γ 69, vI f] (113, ρT t, σ) (pI 113 (ρT t) (fun r σ' => (KB σ σ' f) ∧ ((r = 0 ∨ (r = 1 ∧ ∀ c, 10 * f ≤ c → c < 10 * f + σ' 79 f → σ' 80 c ≠ 2 → WFc σ' f c))) ∧ (InvJ σ') ∧ (Fr jcG σ σ'))) := by
  refine Ct.of rfl (Nat.le_of_ble_eq_true rfl) ?_
  show G Γ mX11_goesText 7 (0, 0) _ (0, 0) 0 [some (vR Γ 69), some (vI f), none] [] (113, ρT t, σ)
  refine g_aload_n (M := mX11_goesText) (pc := 0) dX11_goesText_0 rfl (k := ?_)
  refine g_iconst (M := mX11_goesText) (pc := 1) dX11_goesText_1 (k := ?_)
  refine g_put (M := mX11_goesText) (pc := 2) (ji := 13) (by rfl) fX11_13 kX11_50 dX11_goesText_2 (by omega) (kk := ?_)
  refine g_aload_n (M := mX11_goesText) (pc := 5) dX11_goesText_5 rfl (k := ?_)
  refine g_bipush (M := mX11_goesText) (pc := 6) dX11_goesText_6 (k := ?_)
  refine g_iload_n (M := mX11_goesText) (pc := 8) dX11_goesText_8 rfl (k := ?_)
  refine g_imul (M := mX11_goesText) (pc := 9) dX11_goesText_9 (k := ?_)
  refine g_put (M := mX11_goesText) (pc := 10) (ji := 23) (by rfl) fX11_23 kX11_80 dX11_goesText_10 (by omega) (kk := ?_)
  refine g_iconst (M := mX11_goesText) (pc := 13) dX11_goesText_13 (k := ?_)
  refine g_istore_2 (M := mX11_goesText) (pc := 14) dX11_goesText_14 (k := ?_)
  have loop15 : ∀ (N : Nat) (τ15 : Nat → Int → Int) (n : Int), ((10 - n).toNat) < N → ((InvJ τ15) ∧ (Fr jcG σ τ15) ∧ (0 ≤ n ∧ n ≤ 9) ∧ (GI σ τ15 f n)) → G Γ mX11_goesText 7 (0, 0) (pI 113 (ρT t) (fun r σ' => (KB σ σ' f) ∧ ((r = 0 ∨ (r = 1 ∧ ∀ c, 10 * f ≤ c → c < 10 * f + σ' 79 f → σ' 80 c ≠ 2 → WFc σ' f c))) ∧ (InvJ σ') ∧ (Fr jcG σ σ'))) (0, 0) 15 [some (vR Γ 69), some (vI f), some (vI n)] [] (113, ρT t, τ15) := by
    intro N
    induction N with
    | zero => intro τ15 n hmu15 hinv15; exact absurd hmu15 (Nat.not_lt_zero _)
    | succ N ih15 =>
      intro τ15 n hmu15 hinv15
      obtain ⟨hI15, hF15, hb15_n, hx15_0⟩ := hinv15
      refine g_aload_n (M := mX11_goesText) (pc := 15) dX11_goesText_15 rfl (k := ?_)
      refine g_bipush (M := mX11_goesText) (pc := 16) dX11_goesText_16 (k := ?_)
      refine g_iload_n (M := mX11_goesText) (pc := 18) dX11_goesText_18 rfl (k := ?_)
      refine g_imul (M := mX11_goesText) (pc := 19) dX11_goesText_19 (k := ?_)
      refine g_iload_n (M := mX11_goesText) (pc := 20) dX11_goesText_20 rfl (k := ?_)
      refine g_iadd (M := mX11_goesText) (pc := 21) dX11_goesText_21 (k := ?_)
      have h1522 := hx15_0.2.2
      refine g_cV1I (M := mX11_goesText) (pc := 22) (c_X11_takesClause Γ t _ (100 * f) _ hI15 (by omega) (by omega) (by omega)) qX11_takesClause vX11_takesClause sX11_takesClause kX11_280 dX11_goesText_22 (kk := ?_)
      rintro r22 τ22 ⟨hr22, hk22, ho22, hI22, hG22⟩
      have hF22 : Fr jcG σ τ22 := by refine Fr.tr ?_ (Fr.mono hG22 sb_jcL_jcG); exact hF15
      refine g_if_ne (M := mX11_goesText) (pc := 25) (tgt := 30) (by omega) dX11_goesText_25 (k1 := fun h25 => ?_) (k2 := fun h25 => ?_)
      · skip
        have hz := hr22.resolve_left h25
        have hgi22 := GI_step hx15_0 (by omega) hk22 ho22 (fun j => hG22 79 j rfl) hz.2.1 hz.2.2.1 hz.2.2.2
        refine g_iinc_2 (M := mX11_goesText) (pc := 30) dX11_goesText_30 (k := ?_)
        refine g_aload_n (M := mX11_goesText) (pc := 33) dX11_goesText_33 rfl (k := ?_)
        refine g_getr (M := mX11_goesText) (pc := 34) (by rfl) fX11_16 kX11_59 dX11_goesText_34 (by rfl) (kk := ?_)
        refine g_iload_n (M := mX11_goesText) (pc := 37) dX11_goesText_37 rfl (k := ?_)
        refine g_iload_n (M := mX11_goesText) (pc := 38) dX11_goesText_38 rfl (k := ?_)
        have hgi30 := GI_cong (τ' := up τ22 79 f (n + 1)) hgi22 (fun j => up_cell (by decide)) (fun j => up_cell (by decide)) (fun j => up_cell (by decide)) (fun j => up_cell (by decide)) (fun j hj => up_slot hj) (up_cell (by decide)) (Int.le_of_eq (up_cell (by decide)).symm)
        refine g_iast (M := mX11_goesText) (pc := 39) (by rfl) (by omega) (by omega) (by omega) dX11_goesText_39 (kk := ?_)
        refine g_aload_n (M := mX11_goesText) (pc := 40) dX11_goesText_40 rfl (k := ?_)
        refine g_get (M := mX11_goesText) (pc := 41) (ji := 13) (by rfl) fX11_13 kX11_50 dX11_goesText_41 (kk := fun hr41 => ?_)
        simp only [up_same, up_cell, up_slot, ne_eq, not_false_eq_true, Nat.reduceEqDiff, Int.reduceEq, reduceCtorEq, Nat.reduceAdd, Int.reduceAdd, Int.reduceSub] at hr41 ⊢
        have hb41 := jv69_13 hI22 13 (by omega) (by omega)
        refine g_aload_n (M := mX11_goesText) (pc := 44) dX11_goesText_44 rfl (k := ?_)
        refine g_get (M := mX11_goesText) (pc := 45) (ji := 12) (by rfl) fX11_12 kX11_47 dX11_goesText_45 (kk := fun hr45 => ?_)
        simp only [up_same, up_cell, up_slot, ne_eq, not_false_eq_true, Nat.reduceEqDiff, Int.reduceEq, reduceCtorEq, Nat.reduceAdd, Int.reduceAdd, Int.reduceSub] at hr45 ⊢
        have hb45 := jv69_12 hI22 12 (by omega) (by omega)
        refine g_icmp_ne (M := mX11_goesText) (pc := 48) (tgt := 53) (by omega) (by omega) dX11_goesText_48 (k1 := fun h48 => ?_) (k2 := fun h48 => ?_)
        · skip
          refine g_iload_n (M := mX11_goesText) (pc := 53) dX11_goesText_53 rfl (k := ?_)
          refine g_bipush (M := mX11_goesText) (pc := 54) dX11_goesText_54 (k := ?_)
          refine g_icmp_eq (M := mX11_goesText) (pc := 56) (tgt := 68) (by omega) (by omega) dX11_goesText_56 (k1 := fun h56 => ?_) (k2 := fun h56 => ?_)
          · skip
            refine g_iconst (M := mX11_goesText) (pc := 68) dX11_goesText_68 (k := ?_)
            refine g_zret (M := mX11_goesText) (pc := 69) (by first | omega | (unfold b2; split <;> omega)) rfl dX11_goesText_69 rfl ⟨_, _, rfl, rfl, ?_⟩
            refine ⟨?_, ?_, ?_, ?_⟩
            · first | exact KB_step hx15_0.1 hx15_0.2.2.1 (by omega) hk22 ho22 (fun j _ => hG22 79 j rfl) | exact hgi30.1 | exact hgi62.1
            · first | exact Or.inl rfl | exact Or.inr ⟨rfl, fun c c0 c1 c2 => (hgi30.2.1 c c0 (by rw [up_same] at c1; exact c1) c2).1⟩
            · refine jvu79 ?_ (by omega) (by omega); exact hI22
            · refine Fr.up ?_ (by first | rfl | (unfold jcG; simp; try omega)); exact hF22
          · skip
            refine g_aload_n (M := mX11_goesText) (pc := 59) dX11_goesText_59 rfl (k := ?_)
            refine g_bipush (M := mX11_goesText) (pc := 60) dX11_goesText_60 (k := ?_)
            refine g_cV1I (M := mX11_goesText) (pc := 62) (c_X11_takes Γ t _ _ (by refine jvu79 ?_ (by omega) (by omega); exact hI22) (by first | omega | (simp only [up_same, up_cell, up_slot, ne_eq, not_false_eq_true, Nat.reduceEqDiff, Int.reduceEq, reduceCtorEq, Nat.reduceAdd, Int.reduceAdd, Int.reduceSub]; done) | (simp only [up_same, up_cell, up_slot, ne_eq, not_false_eq_true, Nat.reduceEqDiff, Int.reduceEq, reduceCtorEq, Nat.reduceAdd, Int.reduceAdd, Int.reduceSub]; omega))) qX11_takes vX11_takes sX11_takes kX11_243 dX11_goesText_62 (kk := ?_)
            rintro r62 τ62 ⟨ht62, hI62, hG62⟩
            try simp only [up_same, up_cell, up_slot, ne_eq, not_false_eq_true, Nat.reduceEqDiff, Int.reduceEq, reduceCtorEq, Nat.reduceAdd, Int.reduceAdd, Int.reduceSub] at ht62
            have hgi62 := GI_cong hgi30 (fun j => hG62 80 j rfl) (fun j => hG62 82 j rfl) (fun j => hG62 83 j rfl) (fun j => hG62 84 j rfl) (fun j _ => hG62 79 j rfl) (hG62 69 23 rfl) (by first | omega | (simp [up]; done) | (simp [up]; omega))
            have hF62 : Fr jcG σ τ62 := by refine Fr.tr ?_ (Fr.mono hG62 sb_jcA_jcG); refine Fr.up ?_ (by first | rfl | (unfold jcG; simp; try omega)); exact hF22
            refine g_if_ne (M := mX11_goesText) (pc := 65) (tgt := 15) (by omega) dX11_goesText_65 (k1 := fun h65 => ?_) (k2 := fun h65 => ?_)
            · skip
              refine ih15 _ _ ?_ ?_
              · omega
              · skip
                refine ⟨?_, ?_, ?_, ?_⟩
                · exact hI62
                · exact hF62
                · omega
                · first | exact GI_init | exact hgi62
            · skip
              refine g_iconst (M := mX11_goesText) (pc := 68) dX11_goesText_68 (k := ?_)
              refine g_zret (M := mX11_goesText) (pc := 69) (by first | omega | (unfold b2; split <;> omega)) rfl dX11_goesText_69 rfl ⟨_, _, rfl, rfl, ?_⟩
              refine ⟨?_, ?_, ?_, ?_⟩
              · first | exact KB_step hx15_0.1 hx15_0.2.2.1 (by omega) hk22 ho22 (fun j _ => hG22 79 j rfl) | exact hgi30.1 | exact hgi62.1
              · first | exact Or.inl rfl | exact Or.inr ⟨rfl, fun c c0 c1 c2 => (hgi30.2.1 c c0 (by rw [up_same] at c1; exact c1) c2).1⟩
              · exact hI62
              · exact hF62
        · skip
          refine g_iconst (M := mX11_goesText) (pc := 51) dX11_goesText_51 (k := ?_)
          refine g_zret (M := mX11_goesText) (pc := 52) (by first | omega | (unfold b2; split <;> omega)) rfl dX11_goesText_52 rfl ⟨_, _, rfl, rfl, ?_⟩
          refine ⟨?_, ?_, ?_, ?_⟩
          · first | exact KB_step hx15_0.1 hx15_0.2.2.1 (by omega) hk22 ho22 (fun j _ => hG22 79 j rfl) | exact hgi30.1 | exact hgi62.1
          · first | exact Or.inl rfl | exact Or.inr ⟨rfl, fun c c0 c1 c2 => (hgi30.2.1 c c0 (by rw [up_same] at c1; exact c1) c2).1⟩
          · refine jvu79 ?_ (by omega) (by omega); exact hI22
          · refine Fr.up ?_ (by first | rfl | (unfold jcG; simp; try omega)); exact hF22
      · skip
        refine g_iconst (M := mX11_goesText) (pc := 28) dX11_goesText_28 (k := ?_)
        refine g_zret (M := mX11_goesText) (pc := 29) (by first | omega | (unfold b2; split <;> omega)) rfl dX11_goesText_29 rfl ⟨_, _, rfl, rfl, ?_⟩
        refine ⟨?_, ?_, ?_, ?_⟩
        · first | exact KB_step hx15_0.1 hx15_0.2.2.1 (by omega) hk22 ho22 (fun j _ => hG22 79 j rfl) | exact hgi30.1 | exact hgi62.1
        · first | exact Or.inl rfl | exact Or.inr ⟨rfl, fun c c0 c1 c2 => (hgi30.2.1 c c0 (by rw [up_same] at c1; exact c1) c2).1⟩
        · exact hI22
        · exact hF22
  refine loop15 _ _ _ (Nat.lt_succ_self _) ?_
  refine ⟨?_, ?_, ?_, ?_⟩
  · refine jvu69_23 ?_ (by omega) (by omega); refine jvu69_13 ?_ (by omega) (by omega); exact hI
  · refine Fr.up ?_ (by first | rfl | (unfold jcG; simp; try omega)); refine Fr.up ?_ (by first | rfl | (unfold jcG; simp; try omega)); exact (Fr.rf)
  · omega
  · first | exact GI_init | exact hgi62
set_option maxHeartbeats 4000000 in
set_option maxRecDepth 20000 in
theorem c_X11_town (Γ : KT) (t : Nat) (σ : Nat → Int → Int)  (hI : InvJ σ) (hS : JS σ) : Ct Γ mX11_town 8 (0, 0) [vR Γ 69] (113, ρT t, σ) (pI 113 (ρT t) (fun r σ' => (JS σ') ∧ (InvJ σ') ∧ (Fr jcTw σ σ'))) := by
  refine Ct.of rfl (Nat.le_of_ble_eq_true rfl) ?_
  show G Γ mX11_town 8 (0, 0) _ (0, 0) 0 [some (vR Γ 69), none] [] (113, ρT t, σ)
  refine g_aload_n (M := mX11_town) (pc := 0) dX11_town_0 rfl (k := ?_)
  refine g_get (M := mX11_town) (pc := 1) (ji := 10) (by rfl) fX11_10 kX11_41 dX11_town_1 (kk := fun hr1 => ?_)
  have hb1 := jv69_10 hI 10 (by omega) (by omega)
  refine g_bipush (M := mX11_town) (pc := 4) dX11_town_4 (k := ?_)
  refine g_icmp_ne (M := mX11_town) (pc := 6) (tgt := 12) (by omega) (by omega) dX11_town_6 (k1 := fun h6 => ?_) (k2 := fun h6 => ?_)
  · skip
    refine g_aload_n (M := mX11_town) (pc := 12) dX11_town_12 rfl (k := ?_)
    refine g_aload_n (M := mX11_town) (pc := 13) dX11_town_13 rfl (k := ?_)
    refine g_get (M := mX11_town) (pc := 14) (ji := 10) (by rfl) fX11_10 kX11_41 dX11_town_14 (kk := fun hr14 => ?_)
    refine g_cV1I (M := mX11_town) (pc := 17) (c_X11_goesText Γ t _ _ hI (by omega)) qX11_goesText vX11_goesText sX11_goesText kX11_283 dX11_town_17 (kk := ?_)
    rintro r17 τ17 ⟨hb17, hr17, hI17, hG17⟩
    have hk17_69_10 := hG17 69 10 rfl
    have hF17 : Fr jcTw σ τ17 := by refine Fr.tr ?_ (Fr.mono hG17 sb_jcG_jcTw); exact (Fr.rf)
    refine g_istore_1 (M := mX11_town) (pc := 20) dX11_town_20 (k := ?_)
    refine g_aload_n (M := mX11_town) (pc := 21) dX11_town_21 rfl (k := ?_)
    refine g_iconst (M := mX11_town) (pc := 22) dX11_town_22 (k := ?_)
    refine g_put (M := mX11_town) (pc := 23) (ji := 12) (by rfl) fX11_12 kX11_47 dX11_town_23 (by omega) (kk := ?_)
    refine g_iload_n (M := mX11_town) (pc := 26) dX11_town_26 rfl (k := ?_)
    refine g_if_ne (M := mX11_town) (pc := 27) (tgt := 38) (by omega) dX11_town_27 (k1 := fun h27 => ?_) (k2 := fun h27 => ?_)
    · skip
      refine g_aload_n (M := mX11_town) (pc := 38) dX11_town_38 rfl (k := ?_)
      refine g_aload_n (M := mX11_town) (pc := 39) dX11_town_39 rfl (k := ?_)
      refine g_get (M := mX11_town) (pc := 40) (ji := 10) (by rfl) fX11_10 kX11_41 dX11_town_40 (kk := fun hr40 => ?_)
      simp only [up_same, up_cell, up_slot, ne_eq, not_false_eq_true, Nat.reduceEqDiff, Int.reduceEq, reduceCtorEq, Nat.reduceAdd, Int.reduceAdd, Int.reduceSub] at hr40 ⊢
      have hb40 := jv69_10 hI17 10 (by omega) (by omega)
      refine g_put (M := mX11_town) (pc := 43) (ji := 11) (by rfl) fX11_11 kX11_44 dX11_town_43 (by omega) (kk := ?_)
      refine g_aload_n (M := mX11_town) (pc := 46) dX11_town_46 rfl (k := ?_)
      refine g_dupR (M := mX11_town) (pc := 47) dX11_town_47 (k := ?_)
      refine g_get (M := mX11_town) (pc := 48) (ji := 10) (by rfl) fX11_10 kX11_41 dX11_town_48 (kk := fun hr48 => ?_)
      simp only [up_same, up_cell, up_slot, ne_eq, not_false_eq_true, Nat.reduceEqDiff, Int.reduceEq, reduceCtorEq, Nat.reduceAdd, Int.reduceAdd, Int.reduceSub] at hr48 ⊢
      refine g_iconst (M := mX11_town) (pc := 51) dX11_town_51 (k := ?_)
      refine g_iadd (M := mX11_town) (pc := 52) dX11_town_52 (k := ?_)
      refine g_put (M := mX11_town) (pc := 53) (ji := 10) (by rfl) fX11_10 kX11_41 dX11_town_53 (by omega) (kk := ?_)
      refine g_aload_n (M := mX11_town) (pc := 56) dX11_town_56 rfl (k := ?_)
      refine g_get (M := mX11_town) (pc := 57) (ji := 11) (by rfl) fX11_11 kX11_44 dX11_town_57 (kk := fun hr57 => ?_)
      simp only [up_same, up_cell, up_slot, ne_eq, not_false_eq_true, Nat.reduceEqDiff, Int.reduceEq, reduceCtorEq, Nat.reduceAdd, Int.reduceAdd, Int.reduceSub] at hr57 ⊢
      refine g_iret (M := mX11_town) (pc := 60) rfl dX11_town_60 rfl ⟨_, _, rfl, rfl, ?_⟩
      refine ⟨?_, ?_, ?_⟩
      · first | exact hS | exact JS_town1 hI hS hG17 hb17 | exact JS_town2 hI hS hG17 hb17 (hr17.resolve_left h27).2
      · refine jvu69_10 ?_ (by omega) (by omega); refine jvu69_11 ?_ (by omega) (by omega); refine jvu69_12 ?_ (by omega) (by omega); exact hI17
      · refine Fr.up ?_ (by first | rfl | (unfold jcTw; simp; try omega)); refine Fr.up ?_ (by first | rfl | (unfold jcTw; simp; try omega)); refine Fr.up ?_ (by first | rfl | (unfold jcTw; simp; try omega)); exact hF17
    · skip
      refine g_bipush (M := mX11_town) (pc := 30) dX11_town_30 (k := ?_)
      refine g_aload_n (M := mX11_town) (pc := 32) dX11_town_32 rfl (k := ?_)
      refine g_get (M := mX11_town) (pc := 33) (ji := 13) (by rfl) fX11_13 kX11_50 dX11_town_33 (kk := fun hr33 => ?_)
      simp only [up_same, up_cell, up_slot, ne_eq, not_false_eq_true, Nat.reduceEqDiff, Int.reduceEq, reduceCtorEq, Nat.reduceAdd, Int.reduceAdd, Int.reduceSub] at hr33 ⊢
      have hb33 := jv69_13 hI17 13 (by omega) (by omega)
      refine g_isub (M := mX11_town) (pc := 36) dX11_town_36 (k := ?_)
      refine g_iret (M := mX11_town) (pc := 37) rfl dX11_town_37 rfl ⟨_, _, rfl, rfl, ?_⟩
      refine ⟨?_, ?_, ?_⟩
      · first | exact hS | exact JS_town1 hI hS hG17 hb17 | exact JS_town2 hI hS hG17 hb17 (hr17.resolve_left h27).2
      · refine jvu69_12 ?_ (by omega) (by omega); exact hI17
      · refine Fr.up ?_ (by first | rfl | (unfold jcTw; simp; try omega)); exact hF17
  · skip
    refine g_bipush (M := mX11_town) (pc := 9) dX11_town_9 (k := ?_)
    refine g_iret (M := mX11_town) (pc := 11) rfl dX11_town_11 rfl ⟨_, _, rfl, rfl, ?_⟩
    refine ⟨?_, ?_, ?_⟩
    · first | exact hS | exact JS_town1 hI hS hG17 hb17 | exact JS_town2 hI hS hG17 hb17 (hr17.resolve_left h27).2
    · exact hI
    · exact (Fr.rf)
