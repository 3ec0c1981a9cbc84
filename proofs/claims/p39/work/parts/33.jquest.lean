set_option maxHeartbeats 4000000 in
set_option maxRecDepth 20000 in
theorem c_X11_layOrder (Γ : KT) (t : Nat) (σ : Nat → Int → Int) (s : Int) (nu : Int) (hI : InvJ σ) (hs : 0 ≤ s ∧ s < 64) (hp : popc s ≤ 5) (hn : 0 ≤ nu ∧ nu ≤ 120) : Ct Γ mX11_layOrder 2 (0, 0) [vR Γ 69, vI s, vI nu] (113, ρT t, σ) (pI 113 (ρT t) (fun r σ' => ((r = 0 ∧ facI (popc s) ≤ nu) ∨ (r = 1 ∧ nu < facI (popc s))) ∧ (InvJ σ') ∧ (Fr jcO σ σ'))) := by
  refine Ct.of rfl (Nat.le_of_ble_eq_true rfl) ?_
  show G Γ mX11_layOrder 2 (0, 0) _ (0, 0) 0 [some (vR Γ 69), some (vI s), some (vI nu), none, none, none, none, none, none, none] [] (113, ρT t, σ)
  have hpb := pop_b (s := s) (by omega) (by omega)
  have hfb := facI_5 (n := popc s) (by omega)
  have hfc := facI_b (popc s)
  have hf1 : facI 1 = 1 := by decide
  have hf0 : facI 0 = 1 := by decide
  refine g_aload_n (M := mX11_layOrder) (pc := 0) dX11_layOrder_0 rfl (k := ?_)
  refine g_iload_n (M := mX11_layOrder) (pc := 1) dX11_layOrder_1 rfl (k := ?_)
  refine g_cV1I (M := mX11_layOrder) (pc := 2) (c_X11_ones6 Γ t _ _ (by omega)) qX11_ones vX11_ones sX11_ones kX11_311 dX11_layOrder_2 (kk := ?_)
  rintro r2 _ ⟨hp2, e⟩; rw [e]; clear e
  refine g_istore_3 (M := mX11_layOrder) (pc := 5) dX11_layOrder_5 (k := ?_)
  refine g_iconst (M := mX11_layOrder) (pc := 6) dX11_layOrder_6 (k := ?_)
  refine g_istore_4 (M := mX11_layOrder) (pc := 7) dX11_layOrder_7 (k := ?_)
  refine g_iconst (M := mX11_layOrder) (pc := 9) dX11_layOrder_9 (k := ?_)
  refine g_istore_5 (M := mX11_layOrder) (pc := 10) dX11_layOrder_10 (k := ?_)
  have loop12 : ∀ (N : Nat) (al : Int) (k : Int), ((7 - k).toNat) < N → ((1 ≤ al ∧ al ≤ 720) ∧ (2 ≤ k ∧ k ≤ 6) ∧ (al = facI (k - 1)) ∧ (k ≤ popc s + 1 ∨ k = 2)) → G Γ mX11_layOrder 2 (0, 0) (pI 113 (ρT t) (fun r σ' => ((r = 0 ∧ facI (popc s) ≤ nu) ∨ (r = 1 ∧ nu < facI (popc s))) ∧ (InvJ σ') ∧ (Fr jcO σ σ'))) (0, 0) 12 [some (vR Γ 69), some (vI s), some (vI nu), some (vI r2), some (vI al), some (vI k), none, none, none, none] [] (113, ρT t, σ) := by
    intro N
    induction N with
    | zero => intro al k hmu12 hinv12; exact absurd hmu12 (Nat.not_lt_zero _)
    | succ N ih12 =>
      intro al k hmu12 hinv12
      obtain ⟨hb12_al, hb12_k, hx12_0, hx12_1⟩ := hinv12
      refine g_iload (M := mX11_layOrder) (pc := 12) dX11_layOrder_12 rfl (k := ?_)
      refine g_iload_n (M := mX11_layOrder) (pc := 14) dX11_layOrder_14 rfl (k := ?_)
      refine g_icmp_gt (M := mX11_layOrder) (pc := 15) (tgt := 31) (by omega) (by omega) dX11_layOrder_15 (k1 := fun h15 => ?_) (k2 := fun h15 => ?_)
      · skip
        have hal : al = facI (popc s) := by
          rcases (by omega : (k = 2 ∧ popc s = 0) ∨ k - 1 = popc s) with ⟨e1, e2⟩ | e
          · rw [hx12_0, e1, e2]; decide
          · rw [hx12_0, e]
        refine g_iload_n (M := mX11_layOrder) (pc := 31) dX11_layOrder_31 rfl (k := ?_)
        refine g_iload (M := mX11_layOrder) (pc := 32) dX11_layOrder_32 rfl (k := ?_)
        refine g_icmp_lt (M := mX11_layOrder) (pc := 34) (tgt := 39) (by omega) (by omega) dX11_layOrder_34 (k1 := fun h34 => ?_) (k2 := fun h34 => ?_)
        · skip
          refine g_iload_n (M := mX11_layOrder) (pc := 39) dX11_layOrder_39 rfl (k := ?_)
          refine g_istore_5 (M := mX11_layOrder) (pc := 40) dX11_layOrder_40 (k := ?_)
          refine g_iload_n (M := mX11_layOrder) (pc := 42) dX11_layOrder_42 rfl (k := ?_)
          refine g_istore_6 (M := mX11_layOrder) (pc := 43) dX11_layOrder_43 (k := ?_)
          refine g_iconst (M := mX11_layOrder) (pc := 45) dX11_layOrder_45 (k := ?_)
          refine g_istore_7 (M := mX11_layOrder) (pc := 46) dX11_layOrder_46 (k := ?_)
          have loop48 : ∀ (N : Nat) (τ48 : Nat → Int → Int) (al : Int) (lf : Int) (re : Int) (k : Int), ((6 - k).toNat) < N → ((InvJ τ48) ∧ (Fr jcO σ τ48) ∧ (1 ≤ al ∧ al ≤ 720) ∧ (0 ≤ lf ∧ lf ≤ 63) ∧ (0 ≤ re ∧ re ≤ 720) ∧ (0 ≤ k ∧ k ≤ 5) ∧ (k ≤ popc s) ∧ (popc lf = popc s - k) ∧ (al = facI (r2 - k)) ∧ (re < al)) → G Γ mX11_layOrder 2 (0, 0) (pI 113 (ρT t) (fun r σ' => ((r = 0 ∧ facI (popc s) ≤ nu) ∨ (r = 1 ∧ nu < facI (popc s))) ∧ (InvJ σ') ∧ (Fr jcO σ σ'))) (0, 0) 48 [some (vR Γ 69), some (vI s), some (vI nu), some (vI r2), some (vI al), some (vI lf), some (vI re), some (vI k), none, none] [] (113, ρT t, τ48) := by
            intro N
            induction N with
            | zero => intro τ48 al lf re k hmu48 hinv48; exact absurd hmu48 (Nat.not_lt_zero _)
            | succ N ih48 =>
              intro τ48 al lf re k hmu48 hinv48
              obtain ⟨hI48, hF48, hb48_al, hb48_lf, hb48_re, hb48_k, hx48_0, hx48_1, hx48_2, hx48_3⟩ := hinv48
              refine g_iload (M := mX11_layOrder) (pc := 48) dX11_layOrder_48 rfl (k := ?_)
              refine g_iload_n (M := mX11_layOrder) (pc := 50) dX11_layOrder_50 rfl (k := ?_)
              refine g_icmp_ge (M := mX11_layOrder) (pc := 51) (tgt := 149) (by omega) (by omega) dX11_layOrder_51 (k1 := fun h51 => ?_) (k2 := fun h51 => ?_)
              · skip
                refine g_iconst (M := mX11_layOrder) (pc := 149) dX11_layOrder_149 (k := ?_)
                refine g_zret (M := mX11_layOrder) (pc := 150) (by first | omega | (unfold b2; split <;> omega)) rfl dX11_layOrder_150 rfl ⟨_, _, rfl, rfl, ?_⟩
                refine ⟨?_, ?_, ?_⟩
                · omega
                · exact hI48
                · exact hF48
              · skip
                refine g_iload (M := mX11_layOrder) (pc := 54) dX11_layOrder_54 rfl (k := ?_)
                refine g_iload_n (M := mX11_layOrder) (pc := 56) dX11_layOrder_56 rfl (k := ?_)
                refine g_iload (M := mX11_layOrder) (pc := 57) dX11_layOrder_57 rfl (k := ?_)
                refine g_isub (M := mX11_layOrder) (pc := 59) dX11_layOrder_59 (k := ?_)
                refine g_idiv (M := mX11_layOrder) (pc := 60) (by omega) (by omega) (by omega) dX11_layOrder_60 (k := ?_)
                have hd60 : Int.tdiv al (r2 - k) = facI (r2 - k - 1) := by rw [hx48_2]; exact fac_d (by omega) (by omega)
                have hq60 := fac_q (m := r2 - k) (r := re) (by omega) (by omega) (by omega) (by omega)
                have hfk := facI_b (r2 - k - 1)
                rw [hd60]
                refine g_istore_4 (M := mX11_layOrder) (pc := 61) dX11_layOrder_61 (k := ?_)
                refine g_iload (M := mX11_layOrder) (pc := 63) dX11_layOrder_63 rfl (k := ?_)
                refine g_iload (M := mX11_layOrder) (pc := 65) dX11_layOrder_65 rfl (k := ?_)
                refine g_idiv (M := mX11_layOrder) (pc := 67) (by omega) (by omega) (by omega) dX11_layOrder_67 (k := ?_)
                refine g_istore_8 (M := mX11_layOrder) (pc := 68) dX11_layOrder_68 (k := ?_)
                refine g_iload (M := mX11_layOrder) (pc := 70) dX11_layOrder_70 rfl (k := ?_)
                refine g_iload (M := mX11_layOrder) (pc := 72) dX11_layOrder_72 rfl (k := ?_)
                refine g_irem (M := mX11_layOrder) (pc := 74) (by omega) (by omega) (by omega) dX11_layOrder_74 (k := ?_)
                refine g_istore_6 (M := mX11_layOrder) (pc := 75) dX11_layOrder_75 (k := ?_)
                refine g_iconst (M := mX11_layOrder) (pc := 77) dX11_layOrder_77 (k := ?_)
                refine g_istore_9 (M := mX11_layOrder) (pc := 78) dX11_layOrder_78 (k := ?_)
                have hr0 := rem_0 (s := lf) (by omega) (by omega)
                have loop80 : ∀ (N : Nat) (pl : Int) (h : Int), ((7 - h).toNat) < N → ((0 ≤ pl ∧ pl ≤ 5) ∧ (0 ≤ h ∧ h ≤ 6) ∧ (pl < remB lf h)) → G Γ mX11_layOrder 2 (0, 0) (pI 113 (ρT t) (fun r σ' => ((r = 0 ∧ facI (popc s) ≤ nu) ∨ (r = 1 ∧ nu < facI (popc s))) ∧ (InvJ σ') ∧ (Fr jcO σ σ'))) (0, 0) 80 [some (vR Γ 69), some (vI s), some (vI nu), some (vI r2), some (vI (facI (r2 - k - 1))), some (vI lf), some (vI (Int.tmod re (facI (r2 - k - 1)))), some (vI k), some (vI pl), some (vI h)] [] (113, ρT t, τ48) := by
                  intro N
                  induction N with
                  | zero => intro pl h hmu80 hinv80; exact absurd hmu80 (Nat.not_lt_zero _)
                  | succ N ih80 =>
                    intro pl h hmu80 hinv80
                    obtain ⟨hb80_pl, hb80_h, hx80_0⟩ := hinv80
                    have hr80 := rem_s (s := lf) (h := h) (by omega) (by omega) (by omega) (by omega)
                    refine g_aload_n (M := mX11_layOrder) (pc := 80) dX11_layOrder_80 rfl (k := ?_)
                    refine g_iload (M := mX11_layOrder) (pc := 81) dX11_layOrder_81 rfl (k := ?_)
                    refine g_iload (M := mX11_layOrder) (pc := 83) dX11_layOrder_83 rfl (k := ?_)
                    refine g_cV2I (M := mX11_layOrder) (pc := 85) (c_X11_has Γ t _ _ _) qX11_has vX11_has sX11_has kX11_314 dX11_layOrder_85 (kk := ?_)
                    rintro _ _ ⟨e1, e⟩; rw [e1, e]; clear e1 e
                    have hq85_0 := zbitR lf h
                    refine g_if_eqB (M := mX11_layOrder) (pc := 88) (tgt := 96) dX11_layOrder_88 (k1 := fun h88 => ?_) (k2 := fun h88 => ?_)
                    · skip
                      refine g_iload (M := mX11_layOrder) (pc := 96) dX11_layOrder_96 rfl (k := ?_)
                      refine g_aload_n (M := mX11_layOrder) (pc := 98) dX11_layOrder_98 rfl (k := ?_)
                      refine g_iload (M := mX11_layOrder) (pc := 99) dX11_layOrder_99 rfl (k := ?_)
                      refine g_iload (M := mX11_layOrder) (pc := 101) dX11_layOrder_101 rfl (k := ?_)
                      refine g_cV2I (M := mX11_layOrder) (pc := 103) (c_X11_has Γ t _ _ _) qX11_has vX11_has sX11_has kX11_314 dX11_layOrder_103 (kk := ?_)
                      rintro _ _ ⟨e1, e⟩; rw [e1, e]; clear e1 e
                      have hq103_0 := zbitR lf h
                      refine g_if_eqB (M := mX11_layOrder) (pc := 106) (tgt := 113) dX11_layOrder_106 (k1 := fun h106 => ?_) (k2 := fun h106 => ?_)
                      · skip
                        refine g_iconst (M := mX11_layOrder) (pc := 113) dX11_layOrder_113 (k := ?_)
                        refine g_isub (M := mX11_layOrder) (pc := 114) dX11_layOrder_114 (k := ?_)
                        refine g_istore_8 (M := mX11_layOrder) (pc := 115) dX11_layOrder_115 (k := ?_)
                        refine g_iinc_9 (M := mX11_layOrder) (pc := 117) dX11_layOrder_117 (k := ?_)
                        refine g_goto (M := mX11_layOrder) (pc := 120) (tgt := 80) dX11_layOrder_120 (k := ?_)
                        refine ih80 _ _ ?_ ?_
                        · omega
                        · skip
                          refine ⟨?_, ?_, ?_⟩
                          · omega
                          · omega
                          · omega
                      · skip
                        refine g_iconst (M := mX11_layOrder) (pc := 109) dX11_layOrder_109 (k := ?_)
                        refine g_goto (M := mX11_layOrder) (pc := 110) (tgt := 114) dX11_layOrder_110 (k := ?_)
                        refine g_isub (M := mX11_layOrder) (pc := 114) dX11_layOrder_114 (k := ?_)
                        refine g_istore_8 (M := mX11_layOrder) (pc := 115) dX11_layOrder_115 (k := ?_)
                        refine g_iinc_9 (M := mX11_layOrder) (pc := 117) dX11_layOrder_117 (k := ?_)
                        refine g_goto (M := mX11_layOrder) (pc := 120) (tgt := 80) dX11_layOrder_120 (k := ?_)
                        refine ih80 _ _ ?_ ?_
                        · omega
                        · skip
                          refine ⟨?_, ?_, ?_⟩
                          · omega
                          · omega
                          · omega
                    · skip
                      refine g_iload (M := mX11_layOrder) (pc := 91) dX11_layOrder_91 rfl (k := ?_)
                      refine g_if_le (M := mX11_layOrder) (pc := 93) (tgt := 123) (by omega) dX11_layOrder_93 (k1 := fun h93 => ?_) (k2 := fun h93 => ?_)
                      · skip
                        refine g_aload_n (M := mX11_layOrder) (pc := 123) dX11_layOrder_123 rfl (k := ?_)
                        refine g_getr (M := mX11_layOrder) (pc := 124) (by rfl) fX11_36 kX11_120 dX11_layOrder_124 (by rfl) (kk := ?_)
                        refine g_iload (M := mX11_layOrder) (pc := 127) dX11_layOrder_127 rfl (k := ?_)
                        refine g_iload (M := mX11_layOrder) (pc := 129) dX11_layOrder_129 rfl (k := ?_)
                        refine g_iast (M := mX11_layOrder) (pc := 131) (by rfl) (by omega) (by omega) (by omega) dX11_layOrder_131 (kk := ?_)
                        refine g_iload (M := mX11_layOrder) (pc := 132) dX11_layOrder_132 rfl (k := ?_)
                        refine g_iconst (M := mX11_layOrder) (pc := 134) dX11_layOrder_134 (k := ?_)
                        refine g_iload (M := mX11_layOrder) (pc := 135) dX11_layOrder_135 rfl (k := ?_)
                        refine g_ishl (M := mX11_layOrder) (pc := 137) dX11_layOrder_137 (k := ?_)
                        have hz137 := zshlR 1 h
                        refine g_iconst (M := mX11_layOrder) (pc := 138) dX11_layOrder_138 (k := ?_)
                        refine g_ixor (M := mX11_layOrder) (pc := 139) dX11_layOrder_139 (k := ?_)
                        have hz139 := zxorR (zshl 1 h) (-1)
                        refine g_iand (M := mX11_layOrder) (pc := 140) dX11_layOrder_140 (k := ?_)
                        have hz140 := zandR lf (zxor (zshl 1 h) (-1))
                        have hcl := clr_bit (s := lf) (h := h) (by omega) (by omega) (by omega) (by omega) (by omega)
                        refine g_istore_5 (M := mX11_layOrder) (pc := 141) dX11_layOrder_141 (k := ?_)
                        refine g_iinc_7 (M := mX11_layOrder) (pc := 143) dX11_layOrder_143 (k := ?_)
                        refine g_goto (M := mX11_layOrder) (pc := 146) (tgt := 48) dX11_layOrder_146 (k := ?_)
                        refine g_less (leL_s (leL_s (leL_s (leL_s (leL_s (leL_s (leL_s (leL_s (leL_n (leL_n leL_0)))))))))) ?_
                        refine ih48 _ _ _ _ _ ?_ ?_
                        · omega
                        · skip
                          refine ⟨?_, ?_, ?_, ?_, ?_, ?_, ?_, ?_, ?_, ?_⟩
                          · refine jvu89 ?_ (by omega) (by omega); exact hI48
                          · refine Fr.up ?_ (by first | rfl | (unfold jcO; simp; try omega)); exact hF48
                          · omega
                          · omega
                          · omega
                          · omega
                          · omega
                          · omega
                          · first | omega | (rw [show r2 - 0 = popc s by omega]; exact hal) | (rw [show r2 - (k + 1) = r2 - k - 1 by omega])
                          · omega
                      · skip
                        refine g_iload (M := mX11_layOrder) (pc := 96) dX11_layOrder_96 rfl (k := ?_)
                        refine g_aload_n (M := mX11_layOrder) (pc := 98) dX11_layOrder_98 rfl (k := ?_)
                        refine g_iload (M := mX11_layOrder) (pc := 99) dX11_layOrder_99 rfl (k := ?_)
                        refine g_iload (M := mX11_layOrder) (pc := 101) dX11_layOrder_101 rfl (k := ?_)
                        refine g_cV2I (M := mX11_layOrder) (pc := 103) (c_X11_has Γ t _ _ _) qX11_has vX11_has sX11_has kX11_314 dX11_layOrder_103 (kk := ?_)
                        rintro _ _ ⟨e1, e⟩; rw [e1, e]; clear e1 e
                        have hq103_0 := zbitR lf h
                        refine g_if_eqB (M := mX11_layOrder) (pc := 106) (tgt := 113) dX11_layOrder_106 (k1 := fun h106 => ?_) (k2 := fun h106 => ?_)
                        · skip
                          refine g_iconst (M := mX11_layOrder) (pc := 113) dX11_layOrder_113 (k := ?_)
                          refine g_isub (M := mX11_layOrder) (pc := 114) dX11_layOrder_114 (k := ?_)
                          refine g_istore_8 (M := mX11_layOrder) (pc := 115) dX11_layOrder_115 (k := ?_)
                          refine g_iinc_9 (M := mX11_layOrder) (pc := 117) dX11_layOrder_117 (k := ?_)
                          refine g_goto (M := mX11_layOrder) (pc := 120) (tgt := 80) dX11_layOrder_120 (k := ?_)
                          refine ih80 _ _ ?_ ?_
                          · omega
                          · skip
                            refine ⟨?_, ?_, ?_⟩
                            · omega
                            · omega
                            · omega
                        · skip
                          refine g_iconst (M := mX11_layOrder) (pc := 109) dX11_layOrder_109 (k := ?_)
                          refine g_goto (M := mX11_layOrder) (pc := 110) (tgt := 114) dX11_layOrder_110 (k := ?_)
                          refine g_isub (M := mX11_layOrder) (pc := 114) dX11_layOrder_114 (k := ?_)
                          refine g_istore_8 (M := mX11_layOrder) (pc := 115) dX11_layOrder_115 (k := ?_)
                          refine g_iinc_9 (M := mX11_layOrder) (pc := 117) dX11_layOrder_117 (k := ?_)
                          refine g_goto (M := mX11_layOrder) (pc := 120) (tgt := 80) dX11_layOrder_120 (k := ?_)
                          refine ih80 _ _ ?_ ?_
                          · omega
                          · skip
                            refine ⟨?_, ?_, ?_⟩
                            · omega
                            · omega
                            · omega
                refine loop80 _ _ _ (Nat.lt_succ_self _) ?_
                refine ⟨?_, ?_, ?_⟩
                · omega
                · omega
                · omega
          refine loop48 _ _ _ _ _ _ (Nat.lt_succ_self _) ?_
          refine ⟨?_, ?_, ?_, ?_, ?_, ?_, ?_, ?_, ?_, ?_⟩
          · exact hI
          · exact (Fr.rf)
          · omega
          · omega
          · omega
          · omega
          · omega
          · omega
          · first | omega | (rw [show r2 - 0 = popc s by omega]; exact hal) | (rw [show r2 - (k + 1) = r2 - k - 1 by omega])
          · omega
        · skip
          refine g_iconst (M := mX11_layOrder) (pc := 37) dX11_layOrder_37 (k := ?_)
          refine g_zret (M := mX11_layOrder) (pc := 38) (by first | omega | (unfold b2; split <;> omega)) rfl dX11_layOrder_38 rfl ⟨_, _, rfl, rfl, ?_⟩
          refine ⟨?_, ?_, ?_⟩
          · omega
          · exact hI
          · exact (Fr.rf)
      · skip
        refine g_iload (M := mX11_layOrder) (pc := 18) dX11_layOrder_18 rfl (k := ?_)
        refine g_iload (M := mX11_layOrder) (pc := 20) dX11_layOrder_20 rfl (k := ?_)
        have hz20 : al * k = facI k := by rw [hx12_0]; exact fac_s (by omega) (by omega)
        have hy20 := facI_b k
        refine g_imul (M := mX11_layOrder) (pc := 22) dX11_layOrder_22 (k := ?_)
        refine g_istore_4 (M := mX11_layOrder) (pc := 23) dX11_layOrder_23 (k := ?_)
        refine g_iinc_5 (M := mX11_layOrder) (pc := 25) dX11_layOrder_25 (k := ?_)
        refine g_goto (M := mX11_layOrder) (pc := 28) (tgt := 12) dX11_layOrder_28 (k := ?_)
        refine ih12 _ _ ?_ ?_
        · omega
        · skip
          refine ⟨?_, ?_, ?_, ?_⟩
          · omega
          · omega
          · first | omega | decide | (rw [hz20, show k + 1 - 1 = k by omega])
          · omega
  refine loop12 _ _ _ (Nat.lt_succ_self _) ?_
  refine ⟨?_, ?_, ?_, ?_⟩
  · omega
  · omega
  · first | omega | decide | (rw [hz20, show k + 1 - 1 = k by omega])
  · omega
set_option maxHeartbeats 4000000 in
set_option maxRecDepth 20000 in
theorem c_X11_of (Γ : KT) (t : Nat) (σ : Nat → Int → Int) (h : Int) (w : Int) (hI : InvJ σ) (hS : JS σ) (hh : R32 h) (hw : R32 w) : Ct Γ mX11_of 6 (0, 0) [vR Γ 69, vI h, vI w] (113, ρT t, σ) (pI 113 (ρT t) (fun r σ' => (InvJ σ') ∧ (Fr scJ σ σ'))) := by
  refine Ct.of rfl (Nat.le_of_ble_eq_true rfl) ?_
  show G Γ mX11_of 6 (0, 0) _ (0, 0) 0 [some (vR Γ 69), some (vI h), some (vI w)] [] (113, ρT t, σ)
  refine g_aload_n (M := mX11_of) (pc := 0) dX11_of_0 rfl (k := ?_)
  refine g_iload_n (M := mX11_of) (pc := 1) dX11_of_1 rfl (k := ?_)
  refine g_cV1I (M := mX11_of) (pc := 2) (c_X11_isHouse Γ t _ _ hI (by omega)) qX11_isHouse vX11_isHouse sX11_isHouse kX11_232 dX11_of_2 (kk := ?_)
  rintro _ _ ⟨e1, e⟩; rw [e1, e]; clear e1 e
  have hb2_69 := jv69_0 hI 0 (by omega) (by omega)
  refine g_if_neB (M := mX11_of) (pc := 5) (tgt := 10) dX11_of_5 (k1 := fun h5 => ?_) (k2 := fun h5 => ?_)
  · skip
    refine g_aload_n (M := mX11_of) (pc := 10) dX11_of_10 rfl (k := ?_)
    refine g_iload_n (M := mX11_of) (pc := 11) dX11_of_11 rfl (k := ?_)
    refine g_bipush (M := mX11_of) (pc := 12) dX11_of_12 (k := ?_)
    refine g_bipush (M := mX11_of) (pc := 14) dX11_of_14 (k := ?_)
    refine g_aload_n (M := mX11_of) (pc := 16) dX11_of_16 rfl (k := ?_)
    refine g_get (M := mX11_of) (pc := 17) (ji := 1) (by rfl) fX11_1 kX11_13 dX11_of_17 (kk := fun hr17 => ?_)
    have hb17 := jv69_1 hI 1 (by omega) (by omega)
    refine g_iadd (M := mX11_of) (pc := 20) dX11_of_20 (k := ?_)
    refine g_cV3I (M := mX11_of) (pc := 21) (c_X11_in Γ t _ _ _ _ (by omega) (by omega) (by omega)) qX11_in vX11_in sX11_in kX11_224 dX11_of_21 (kk := ?_)
    rintro _ _ ⟨e1, e⟩; rw [e1, e]; clear e1 e
    refine g_if_eqB (M := mX11_of) (pc := 24) (tgt := 46) dX11_of_24 (k1 := fun h24 => ?_) (k2 := fun h24 => ?_)
    · skip
      refine g_aload_n (M := mX11_of) (pc := 46) dX11_of_46 rfl (k := ?_)
      refine g_iload_n (M := mX11_of) (pc := 47) dX11_of_47 rfl (k := ?_)
      refine g_bipush (M := mX11_of) (pc := 48) dX11_of_48 (k := ?_)
      refine g_bipush (M := mX11_of) (pc := 50) dX11_of_50 (k := ?_)
      refine g_aload_n (M := mX11_of) (pc := 52) dX11_of_52 rfl (k := ?_)
      refine g_get (M := mX11_of) (pc := 53) (ji := 1) (by rfl) fX11_1 kX11_13 dX11_of_53 (kk := fun hr53 => ?_)
      refine g_iadd (M := mX11_of) (pc := 56) dX11_of_56 (k := ?_)
      refine g_cV3I (M := mX11_of) (pc := 57) (c_X11_in Γ t _ _ _ _ (by omega) (by omega) (by omega)) qX11_in vX11_in sX11_in kX11_224 dX11_of_57 (kk := ?_)
      rintro _ _ ⟨e1, e⟩; rw [e1, e]; clear e1 e
      refine g_if_eqB (M := mX11_of) (pc := 60) (tgt := 82) dX11_of_60 (k1 := fun h60 => ?_) (k2 := fun h60 => ?_)
      · skip
        refine g_iload_n (M := mX11_of) (pc := 82) dX11_of_82 rfl (k := ?_)
        by_cases hsw83 : w < 0 ∨ 3 < w
        · skip
          refine g_tableOut (M := mX11_of) (pc := 83) (tgt := 140) (by omega) dX11_of_83 (h := hsw83) (k := ?_)
          refine g_iconst (M := mX11_of) (pc := 140) dX11_of_140 (k := ?_)
          refine g_iret (M := mX11_of) (pc := 141) rfl dX11_of_141 rfl ⟨_, _, rfl, rfl, ?_⟩
          refine ⟨?_, ?_⟩
          · exact hI
          · exact (Fr.rf)
        · obtain hc83 | hc83 | hc83 | hc83 : w = 0 ∨ w = 1 ∨ w = 2 ∨ w = 3 := by omega
          · skip
            refine g_tableIn (M := mX11_of) (pc := 83) (tgt := 112) (by omega) dX11_of_83 (0) hc83 (k := ?_)
            refine g_aload_n (M := mX11_of) (pc := 112) dX11_of_112 rfl (k := ?_)
            refine g_getr (M := mX11_of) (pc := 113) (by rfl) fX11_2 kX11_16 dX11_of_113 (by rfl) (kk := ?_)
            refine g_iload_n (M := mX11_of) (pc := 116) dX11_of_116 rfl (k := ?_)
            refine g_iald (M := mX11_of) (pc := 117) (by rfl) (by omega) (by omega) dX11_of_117 (kk := fun hr117 => ?_)
            have hb117 := jv70_0 hI h (by omega) (by omega)
            refine g_iret (M := mX11_of) (pc := 118) rfl dX11_of_118 rfl ⟨_, _, rfl, rfl, ?_⟩
            refine ⟨?_, ?_⟩
            · exact hI
            · exact (Fr.rf)
          · skip
            refine g_tableIn (M := mX11_of) (pc := 83) (tgt := 119) (by omega) dX11_of_83 (1) hc83 (k := ?_)
            refine g_aload_n (M := mX11_of) (pc := 119) dX11_of_119 rfl (k := ?_)
            refine g_getr (M := mX11_of) (pc := 120) (by rfl) fX11_3 kX11_20 dX11_of_120 (by rfl) (kk := ?_)
            refine g_iload_n (M := mX11_of) (pc := 123) dX11_of_123 rfl (k := ?_)
            refine g_iald (M := mX11_of) (pc := 124) (by rfl) (by omega) (by omega) dX11_of_124 (kk := fun hr124 => ?_)
            have hb124 := jv71_0 hI h (by omega) (by omega)
            refine g_iret (M := mX11_of) (pc := 125) rfl dX11_of_125 rfl ⟨_, _, rfl, rfl, ?_⟩
            refine ⟨?_, ?_⟩
            · exact hI
            · exact (Fr.rf)
          · skip
            refine g_tableIn (M := mX11_of) (pc := 83) (tgt := 126) (by omega) dX11_of_83 (2) hc83 (k := ?_)
            refine g_aload_n (M := mX11_of) (pc := 126) dX11_of_126 rfl (k := ?_)
            refine g_getr (M := mX11_of) (pc := 127) (by rfl) fX11_4 kX11_23 dX11_of_127 (by rfl) (kk := ?_)
            refine g_iload_n (M := mX11_of) (pc := 130) dX11_of_130 rfl (k := ?_)
            refine g_iald (M := mX11_of) (pc := 131) (by rfl) (by omega) (by omega) dX11_of_131 (kk := fun hr131 => ?_)
            have hb131 := jv72_0 hI h (by omega) (by omega)
            refine g_iret (M := mX11_of) (pc := 132) rfl dX11_of_132 rfl ⟨_, _, rfl, rfl, ?_⟩
            refine ⟨?_, ?_⟩
            · exact hI
            · exact (Fr.rf)
          · skip
            refine g_tableIn (M := mX11_of) (pc := 83) (tgt := 133) (by omega) dX11_of_83 (3) hc83 (k := ?_)
            refine g_aload_n (M := mX11_of) (pc := 133) dX11_of_133 rfl (k := ?_)
            refine g_getr (M := mX11_of) (pc := 134) (by rfl) fX11_5 kX11_26 dX11_of_134 (by rfl) (kk := ?_)
            refine g_iload_n (M := mX11_of) (pc := 137) dX11_of_137 rfl (k := ?_)
            refine g_iald (M := mX11_of) (pc := 138) (by rfl) (by omega) (by omega) dX11_of_138 (kk := fun hr138 => ?_)
            refine g_iret (M := mX11_of) (pc := 139) rfl dX11_of_139 rfl ⟨_, _, rfl, rfl, ?_⟩
            refine ⟨?_, ?_⟩
            · exact hI
            · exact (Fr.rf)
      · skip
        refine g_aload_n (M := mX11_of) (pc := 63) dX11_of_63 rfl (k := ?_)
        refine g_iload_n (M := mX11_of) (pc := 64) dX11_of_64 rfl (k := ?_)
        refine g_bipush (M := mX11_of) (pc := 65) dX11_of_65 (k := ?_)
        refine g_isub (M := mX11_of) (pc := 67) dX11_of_67 (k := ?_)
        refine g_iload_n (M := mX11_of) (pc := 68) dX11_of_68 rfl (k := ?_)
        refine g_aload_n (M := mX11_of) (pc := 69) dX11_of_69 rfl (k := ?_)
        refine g_getr (M := mX11_of) (pc := 70) (by rfl) fX11_8 kX11_35 dX11_of_70 (by rfl) (kk := ?_)
        refine g_iload_n (M := mX11_of) (pc := 73) dX11_of_73 rfl (k := ?_)
        refine g_bipush (M := mX11_of) (pc := 74) dX11_of_74 (k := ?_)
        refine g_isub (M := mX11_of) (pc := 76) dX11_of_76 (k := ?_)
        refine g_iald (M := mX11_of) (pc := 77) (by rfl) (by omega) (by omega) dX11_of_77 (kk := fun hr77 => ?_)
        have hb77 := jv76_0 hI (w - 20) (by omega) (by omega)
        refine g_cV3I (M := mX11_of) (pc := 78) (c_X11_farOf Γ t _ _ _ _ hI hS (by omega) (by omega) (by omega)) qX11_farOf vX11_farOf sX11_farOf kX11_308 dX11_of_78 (kk := ?_)
        rintro r78 τ78 ⟨hi78, hI78, hG78⟩
        have hF78 : Fr scJ σ τ78 := by refine Fr.tr ?_ (Fr.mono hG78 sb_jcH_scJ); exact (Fr.rf)
        refine g_iret (M := mX11_of) (pc := 81) rfl dX11_of_81 rfl ⟨_, _, rfl, rfl, ?_⟩
        refine ⟨?_, ?_⟩
        · exact hI78
        · exact hF78
    · skip
      refine g_aload_n (M := mX11_of) (pc := 27) dX11_of_27 rfl (k := ?_)
      refine g_iload_n (M := mX11_of) (pc := 28) dX11_of_28 rfl (k := ?_)
      refine g_bipush (M := mX11_of) (pc := 29) dX11_of_29 (k := ?_)
      refine g_isub (M := mX11_of) (pc := 31) dX11_of_31 (k := ?_)
      refine g_iload_n (M := mX11_of) (pc := 32) dX11_of_32 rfl (k := ?_)
      refine g_aload_n (M := mX11_of) (pc := 33) dX11_of_33 rfl (k := ?_)
      refine g_getr (M := mX11_of) (pc := 34) (by rfl) fX11_8 kX11_35 dX11_of_34 (by rfl) (kk := ?_)
      refine g_iload_n (M := mX11_of) (pc := 37) dX11_of_37 rfl (k := ?_)
      refine g_bipush (M := mX11_of) (pc := 38) dX11_of_38 (k := ?_)
      refine g_isub (M := mX11_of) (pc := 40) dX11_of_40 (k := ?_)
      refine g_iald (M := mX11_of) (pc := 41) (by rfl) (by omega) (by omega) dX11_of_41 (kk := fun hr41 => ?_)
      have hb41 := jv76_0 hI (w - 10) (by omega) (by omega)
      refine g_cV3I (M := mX11_of) (pc := 42) (c_X11_slowOf Γ t _ _ _ _ hI hS (by omega) (by omega) (by omega)) qX11_slowOf vX11_slowOf sX11_slowOf kX11_304 dX11_of_42 (kk := ?_)
      rintro r42 τ42 ⟨hi42, hI42, hG42⟩
      have hF42 : Fr scJ σ τ42 := by refine Fr.tr ?_ (Fr.mono hG42 sb_jcH_scJ); exact (Fr.rf)
      refine g_iret (M := mX11_of) (pc := 45) rfl dX11_of_45 rfl ⟨_, _, rfl, rfl, ?_⟩
      refine ⟨?_, ?_⟩
      · exact hI42
      · exact hF42
  · skip
    refine g_iconst (M := mX11_of) (pc := 8) dX11_of_8 (k := ?_)
    refine g_iret (M := mX11_of) (pc := 9) rfl dX11_of_9 rfl ⟨_, _, rfl, rfl, ?_⟩
    refine ⟨?_, ?_⟩
    · exact hI
    · exact (Fr.rf)
set_option maxHeartbeats 4000000 in
set_option maxRecDepth 20000 in
theorem c_X11_visit (Γ : KT) (t : Nat) (σ : Nat → Int → Int) (f : Int) (h : Int) (w : Int) (hI : InvJ σ) (hS : JS σ) (hf : R32 f) (hh : R32 h) (hw : R32 w) : Ct Γ mX11_visit 7 (0, 0) [vR Γ 69, vI f, vI h, vI w] (113, ρT t, σ) (pI 113 (ρT t) (fun r σ' => (InvJ σ') ∧ (Fr scJ σ σ'))) := by
  refine Ct.of rfl (Nat.le_of_ble_eq_true rfl) ?_
  show G Γ mX11_visit 7 (0, 0) _ (0, 0) 0 [some (vR Γ 69), some (vI f), some (vI h), some (vI w), none] [] (113, ρT t, σ)
  refine g_aload_n (M := mX11_visit) (pc := 0) dX11_visit_0 rfl (k := ?_)
  refine g_iload_n (M := mX11_visit) (pc := 1) dX11_visit_1 rfl (k := ?_)
  refine g_cV1I (M := mX11_visit) (pc := 2) (c_X11_isFolk Γ t _ _ hI (by omega)) qX11_isFolk vX11_isFolk sX11_isFolk kX11_236 dX11_visit_2 (kk := ?_)
  rintro _ _ ⟨e1, e⟩; rw [e1, e]; clear e1 e
  have hb2_69 := jv69_1 hI 1 (by omega) (by omega)
  refine g_if_eqB (M := mX11_visit) (pc := 5) (tgt := 26) dX11_visit_5 (k1 := fun h5 => ?_) (k2 := fun h5 => ?_)
  · skip
    refine g_iconst (M := mX11_visit) (pc := 26) dX11_visit_26 (k := ?_)
    refine g_iret (M := mX11_visit) (pc := 27) rfl dX11_visit_27 rfl ⟨_, _, rfl, rfl, ?_⟩
    refine ⟨?_, ?_⟩
    · exact hI
    · exact (Fr.rf)
  · skip
    refine g_aload_n (M := mX11_visit) (pc := 8) dX11_visit_8 rfl (k := ?_)
    refine g_iload_n (M := mX11_visit) (pc := 9) dX11_visit_9 rfl (k := ?_)
    refine g_cV1I (M := mX11_visit) (pc := 10) (c_X11_isHouse Γ t _ _ hI (by omega)) qX11_isHouse vX11_isHouse sX11_isHouse kX11_232 dX11_visit_10 (kk := ?_)
    rintro _ _ ⟨e1, e⟩; rw [e1, e]; clear e1 e
    have hb10_69 := jv69_0 hI 0 (by omega) (by omega)
    refine g_if_eqB (M := mX11_visit) (pc := 13) (tgt := 26) dX11_visit_13 (k1 := fun h13 => ?_) (k2 := fun h13 => ?_)
    · skip
      refine g_iconst (M := mX11_visit) (pc := 26) dX11_visit_26 (k := ?_)
      refine g_iret (M := mX11_visit) (pc := 27) rfl dX11_visit_27 rfl ⟨_, _, rfl, rfl, ?_⟩
      refine ⟨?_, ?_⟩
      · exact hI
      · exact (Fr.rf)
    · skip
      refine g_aload_n (M := mX11_visit) (pc := 16) dX11_visit_16 rfl (k := ?_)
      refine g_iload_n (M := mX11_visit) (pc := 17) dX11_visit_17 rfl (k := ?_)
      refine g_iconst (M := mX11_visit) (pc := 18) dX11_visit_18 (k := ?_)
      refine g_iconst (M := mX11_visit) (pc := 19) dX11_visit_19 (k := ?_)
      refine g_cV3I (M := mX11_visit) (pc := 20) (c_X11_in Γ t _ _ _ _ (by omega) (by omega) (by omega)) qX11_in vX11_in sX11_in kX11_224 dX11_visit_20 (kk := ?_)
      rintro _ _ ⟨e1, e⟩; rw [e1, e]; clear e1 e
      refine g_if_neB (M := mX11_visit) (pc := 23) (tgt := 28) dX11_visit_23 (k1 := fun h23 => ?_) (k2 := fun h23 => ?_)
      · skip
        refine g_aload_n (M := mX11_visit) (pc := 28) dX11_visit_28 rfl (k := ?_)
        refine g_iload_n (M := mX11_visit) (pc := 29) dX11_visit_29 rfl (k := ?_)
        refine g_iload_n (M := mX11_visit) (pc := 30) dX11_visit_30 rfl (k := ?_)
        refine g_iconst (M := mX11_visit) (pc := 31) dX11_visit_31 (k := ?_)
        refine g_cV3I (M := mX11_visit) (pc := 32) (c_X11_comesIn Γ t _ _ _ _ hI hS (by omega) (by omega) (by omega)) qX11_comesIn vX11_comesIn sX11_comesIn kX11_343 dX11_visit_32 (kk := ?_)
        rintro r32 τ32 ⟨hi32, hm32, hI32, hG32⟩
        have hF32 : Fr scJ σ τ32 := by refine Fr.tr ?_ (Fr.mono hG32 sb_jcC_scJ); exact (Fr.rf)
        refine g_istore_4 (M := mX11_visit) (pc := 35) dX11_visit_35 (k := ?_)
        refine g_iload_n (M := mX11_visit) (pc := 37) dX11_visit_37 rfl (k := ?_)
        refine g_if_ne (M := mX11_visit) (pc := 38) (tgt := 48) (by omega) dX11_visit_38 (k1 := fun h38 => ?_) (k2 := fun h38 => ?_)
        · skip
          refine g_iload_n (M := mX11_visit) (pc := 48) dX11_visit_48 rfl (k := ?_)
          refine g_iconst (M := mX11_visit) (pc := 49) dX11_visit_49 (k := ?_)
          refine g_icmp_ne (M := mX11_visit) (pc := 50) (tgt := 66) (by omega) (by omega) dX11_visit_50 (k1 := fun h50 => ?_) (k2 := fun h50 => ?_)
          · skip
            refine g_aload_n (M := mX11_visit) (pc := 66) dX11_visit_66 rfl (k := ?_)
            refine g_get (M := mX11_visit) (pc := 67) (ji := 31) (by rfl) fX11_31 kX11_105 dX11_visit_67 (kk := fun hr67 => ?_)
            have hb67 := jv69_31 hI32 31 (by omega) (by omega)
            refine g_iret (M := mX11_visit) (pc := 70) rfl dX11_visit_70 rfl ⟨_, _, rfl, rfl, ?_⟩
            refine ⟨?_, ?_⟩
            · exact hI32
            · exact hF32
          · skip
            refine g_iload (M := mX11_visit) (pc := 53) dX11_visit_53 rfl (k := ?_)
            refine g_if_eq (M := mX11_visit) (pc := 55) (tgt := 62) (by omega) dX11_visit_55 (k1 := fun h55 => ?_) (k2 := fun h55 => ?_)
            · skip
              refine g_iconst (M := mX11_visit) (pc := 62) dX11_visit_62 (k := ?_)
              refine g_goto (M := mX11_visit) (pc := 63) (tgt := 70) dX11_visit_63 (k := ?_)
              refine g_iret (M := mX11_visit) (pc := 70) rfl dX11_visit_70 rfl ⟨_, _, rfl, rfl, ?_⟩
              refine ⟨?_, ?_⟩
              · exact hI32
              · exact hF32
            · skip
              refine g_iconst (M := mX11_visit) (pc := 58) dX11_visit_58 (k := ?_)
              refine g_goto (M := mX11_visit) (pc := 59) (tgt := 70) dX11_visit_59 (k := ?_)
              refine g_iret (M := mX11_visit) (pc := 70) rfl dX11_visit_70 rfl ⟨_, _, rfl, rfl, ?_⟩
              refine ⟨?_, ?_⟩
              · exact hI32
              · exact hF32
        · skip
          refine g_aload_n (M := mX11_visit) (pc := 41) dX11_visit_41 rfl (k := ?_)
          refine g_get (M := mX11_visit) (pc := 42) (ji := 29) (by rfl) fX11_29 kX11_99 dX11_visit_42 (kk := fun hr42 => ?_)
          have hb42 := jv69_29 hI32 29 (by omega) (by omega)
          refine g_goto (M := mX11_visit) (pc := 45) (tgt := 70) dX11_visit_45 (k := ?_)
          refine g_iret (M := mX11_visit) (pc := 70) rfl dX11_visit_70 rfl ⟨_, _, rfl, rfl, ?_⟩
          refine ⟨?_, ?_⟩
          · exact hI32
          · exact hF32
      · skip
        refine g_iconst (M := mX11_visit) (pc := 26) dX11_visit_26 (k := ?_)
        refine g_iret (M := mX11_visit) (pc := 27) rfl dX11_visit_27 rfl ⟨_, _, rfl, rfl, ?_⟩
        refine ⟨?_, ?_⟩
        · exact hI
        · exact (Fr.rf)
set_option maxHeartbeats 4000000 in
set_option maxRecDepth 20000 in
theorem c_X11_goes (Γ : KT) (t : Nat) (σ : Nat → Int → Int) (f : Int) (w : Int) (hI : InvJ σ) (hS : JS σ) (hf : R32 f) (hw : R32 w) : Ct Γ mX11_goes 7 (0, 0) [vR Γ 69, vI f, vI w] (113, ρT t, σ) (pI 113 (ρT t) (fun r σ' => (InvJ σ') ∧ (Fr scJ σ σ'))) := by
  refine Ct.of rfl (Nat.le_of_ble_eq_true rfl) ?_
  show G Γ mX11_goes 7 (0, 0) _ (0, 0) 0 [some (vR Γ 69), some (vI f), some (vI w), none, none, none] [] (113, ρT t, σ)
  refine g_aload_n (M := mX11_goes) (pc := 0) dX11_goes_0 rfl (k := ?_)
  refine g_iload_n (M := mX11_goes) (pc := 1) dX11_goes_1 rfl (k := ?_)
  refine g_cV1I (M := mX11_goes) (pc := 2) (c_X11_isFolk Γ t _ _ hI (by omega)) qX11_isFolk vX11_isFolk sX11_isFolk kX11_236 dX11_goes_2 (kk := ?_)
  rintro _ _ ⟨e1, e⟩; rw [e1, e]; clear e1 e
  have hb2_69 := jv69_1 hI 1 (by omega) (by omega)
  refine g_if_eqB (M := mX11_goes) (pc := 5) (tgt := 18) dX11_goes_5 (k1 := fun h5 => ?_) (k2 := fun h5 => ?_)
  · skip
    refine g_iconst (M := mX11_goes) (pc := 18) dX11_goes_18 (k := ?_)
    refine g_iret (M := mX11_goes) (pc := 19) rfl dX11_goes_19 rfl ⟨_, _, rfl, rfl, ?_⟩
    refine ⟨?_, ?_⟩
    · exact hI
    · exact (Fr.rf)
  · skip
    refine g_aload_n (M := mX11_goes) (pc := 8) dX11_goes_8 rfl (k := ?_)
    refine g_iload_n (M := mX11_goes) (pc := 9) dX11_goes_9 rfl (k := ?_)
    refine g_iconst (M := mX11_goes) (pc := 10) dX11_goes_10 (k := ?_)
    refine g_iconst (M := mX11_goes) (pc := 11) dX11_goes_11 (k := ?_)
    refine g_cV3I (M := mX11_goes) (pc := 12) (c_X11_in Γ t _ _ _ _ (by omega) (by omega) (by omega)) qX11_in vX11_in sX11_in kX11_224 dX11_goes_12 (kk := ?_)
    rintro _ _ ⟨e1, e⟩; rw [e1, e]; clear e1 e
    refine g_if_neB (M := mX11_goes) (pc := 15) (tgt := 20) dX11_goes_15 (k1 := fun h15 => ?_) (k2 := fun h15 => ?_)
    · skip
      refine g_aload_n (M := mX11_goes) (pc := 20) dX11_goes_20 rfl (k := ?_)
      refine g_iload_n (M := mX11_goes) (pc := 21) dX11_goes_21 rfl (k := ?_)
      refine g_iconst (M := mX11_goes) (pc := 22) dX11_goes_22 (k := ?_)
      refine g_cV2V (M := mX11_goes) (pc := 23) (c_X11_beginNight Γ t _ _ _ hI (by omega) (by omega)) qX11_beginNight vX11_beginNight sX11_beginNight kX11_336 dX11_goes_23 (kk := ?_)
      rintro τ23 ⟨hw23, hm23, hI23, hG23⟩
      have hk23_69_1 := hG23 69 1 rfl
      have hF23 : Fr scJ σ τ23 := by refine Fr.tr ?_ (Fr.mono hG23 sb_jcN_scJ); exact (Fr.rf)
      refine g_bipush (M := mX11_goes) (pc := 26) dX11_goes_26 (k := ?_)
      refine g_istore_3 (M := mX11_goes) (pc := 28) dX11_goes_28 (k := ?_)
      refine g_iconst (M := mX11_goes) (pc := 29) dX11_goes_29 (k := ?_)
      refine g_istore_4 (M := mX11_goes) (pc := 30) dX11_goes_30 (k := ?_)
      have loop32 : ∀ (N : Nat) (τ32 : Nat → Int → Int) (fi : Int) (q : Int), ((9 - q).toNat) < N → ((InvJ τ32) ∧ (Fr scJ σ τ32) ∧ (-5 ≤ fi ∧ fi ≤ 8) ∧ (0 ≤ q ∧ q ≤ 8) ∧ (τ32 69 28 = f) ∧ (τ32 69 29 ≤ 103000 * q)) → G Γ mX11_goes 7 (0, 0) (pI 113 (ρT t) (fun r σ' => (InvJ σ') ∧ (Fr scJ σ σ'))) (0, 0) 32 [some (vR Γ 69), some (vI f), some (vI w), some (vI fi), some (vI q), none] [] (113, ρT t, τ32) := by
        intro N
        induction N with
        | zero => intro τ32 fi q hmu32 hinv32; exact absurd hmu32 (Nat.not_lt_zero _)
        | succ N ih32 =>
          intro τ32 fi q hmu32 hinv32
          obtain ⟨hI32, hF32, hb32_fi, hb32_q, hx32_0, hx32_1⟩ := hinv32
          have he32_69_1 := hF32 69 1 rfl
          refine g_iload (M := mX11_goes) (pc := 32) dX11_goes_32 rfl (k := ?_)
          refine g_aload_n (M := mX11_goes) (pc := 34) dX11_goes_34 rfl (k := ?_)
          refine g_get (M := mX11_goes) (pc := 35) (ji := 34) (by rfl) fX11_34 kX11_114 dX11_goes_35 (kk := fun hr35 => ?_)
          have hb35 := jv69_34 hI32 34 (by omega) (by omega)
          refine g_icmp_ge (M := mX11_goes) (pc := 38) (tgt := 76) (by omega) (by omega) dX11_goes_38 (k1 := fun h38 => ?_) (k2 := fun h38 => ?_)
          · skip
            refine g_iload_n (M := mX11_goes) (pc := 76) dX11_goes_76 rfl (k := ?_)
            refine g_if_ne (M := mX11_goes) (pc := 77) (tgt := 87) (by omega) dX11_goes_77 (k1 := fun h77 => ?_) (k2 := fun h77 => ?_)
            · skip
              refine g_iload_n (M := mX11_goes) (pc := 87) dX11_goes_87 rfl (k := ?_)
              refine g_iconst (M := mX11_goes) (pc := 88) dX11_goes_88 (k := ?_)
              refine g_icmp_ne (M := mX11_goes) (pc := 89) (tgt := 99) (by omega) (by omega) dX11_goes_89 (k1 := fun h89 => ?_) (k2 := fun h89 => ?_)
              · skip
                refine g_iload_n (M := mX11_goes) (pc := 99) dX11_goes_99 rfl (k := ?_)
                refine g_iconst (M := mX11_goes) (pc := 100) dX11_goes_100 (k := ?_)
                refine g_icmp_ne (M := mX11_goes) (pc := 101) (tgt := 111) (by omega) (by omega) dX11_goes_101 (k1 := fun h101 => ?_) (k2 := fun h101 => ?_)
                · skip
                  refine g_iload_n (M := mX11_goes) (pc := 111) dX11_goes_111 rfl (k := ?_)
                  refine g_iret (M := mX11_goes) (pc := 112) rfl dX11_goes_112 rfl ⟨_, _, rfl, rfl, ?_⟩
                  refine ⟨?_, ?_⟩
                  · exact hI32
                  · exact hF32
                · skip
                  refine g_aload_n (M := mX11_goes) (pc := 104) dX11_goes_104 rfl (k := ?_)
                  refine g_get (M := mX11_goes) (pc := 105) (ji := 33) (by rfl) fX11_33 kX11_111 dX11_goes_105 (kk := fun hr105 => ?_)
                  refine g_goto (M := mX11_goes) (pc := 108) (tgt := 112) dX11_goes_108 (k := ?_)
                  refine g_iret (M := mX11_goes) (pc := 112) rfl dX11_goes_112 rfl ⟨_, _, rfl, rfl, ?_⟩
                  refine ⟨?_, ?_⟩
                  · exact hI32
                  · exact hF32
              · skip
                refine g_aload_n (M := mX11_goes) (pc := 92) dX11_goes_92 rfl (k := ?_)
                refine g_get (M := mX11_goes) (pc := 93) (ji := 31) (by rfl) fX11_31 kX11_105 dX11_goes_93 (kk := fun hr93 => ?_)
                have hb93 := jv69_31 hI32 31 (by omega) (by omega)
                refine g_goto (M := mX11_goes) (pc := 96) (tgt := 112) dX11_goes_96 (k := ?_)
                refine g_iret (M := mX11_goes) (pc := 112) rfl dX11_goes_112 rfl ⟨_, _, rfl, rfl, ?_⟩
                refine ⟨?_, ?_⟩
                · exact hI32
                · exact hF32
            · skip
              refine g_aload_n (M := mX11_goes) (pc := 80) dX11_goes_80 rfl (k := ?_)
              refine g_get (M := mX11_goes) (pc := 81) (ji := 29) (by rfl) fX11_29 kX11_99 dX11_goes_81 (kk := fun hr81 => ?_)
              have hb81 := jv69_29 hI32 29 (by omega) (by omega)
              refine g_goto (M := mX11_goes) (pc := 84) (tgt := 112) dX11_goes_84 (k := ?_)
              refine g_iret (M := mX11_goes) (pc := 112) rfl dX11_goes_112 rfl ⟨_, _, rfl, rfl, ?_⟩
              refine ⟨?_, ?_⟩
              · exact hI32
              · exact hF32
          · skip
            refine g_aload_n (M := mX11_goes) (pc := 41) dX11_goes_41 rfl (k := ?_)
            refine g_aload_n (M := mX11_goes) (pc := 42) dX11_goes_42 rfl (k := ?_)
            refine g_getr (M := mX11_goes) (pc := 43) (by rfl) fX11_35 kX11_117 dX11_goes_43 (by rfl) (kk := ?_)
            refine g_iload (M := mX11_goes) (pc := 46) dX11_goes_46 rfl (k := ?_)
            refine g_iald (M := mX11_goes) (pc := 48) (by rfl) (by omega) (by omega) dX11_goes_48 (kk := fun hr48 => ?_)
            have hb48 := jv88_0 hI32 q (by omega) (by omega)
            refine g_cV1I (M := mX11_goes) (pc := 49) (c_X11_visits Γ t _ _ hI32 (JS_fr hS (by exact Fr.mono hF32 sb_scJ_jNS)) (by omega) (by omega) (by omega)) qX11_visits vX11_visits sX11_visits kX11_340 dX11_goes_49 (kk := ?_)
            rintro r49 τ49 ⟨hi49, hm49, hI49, hG49⟩
            have hF49 : Fr scJ σ τ49 := by refine Fr.tr ?_ (Fr.mono hG49 sb_jcV_scJ); exact hF32
            refine g_istore_5 (M := mX11_goes) (pc := 52) dX11_goes_52 (k := ?_)
            refine g_iload (M := mX11_goes) (pc := 54) dX11_goes_54 rfl (k := ?_)
            refine g_if_ne (M := mX11_goes) (pc := 56) (tgt := 68) (by omega) dX11_goes_56 (k1 := fun h56 => ?_) (k2 := fun h56 => ?_)
            · skip
              refine g_iload_n (M := mX11_goes) (pc := 68) dX11_goes_68 rfl (k := ?_)
              refine g_istore_3 (M := mX11_goes) (pc := 69) dX11_goes_69 (k := ?_)
              refine g_iinc_4 (M := mX11_goes) (pc := 70) dX11_goes_70 (k := ?_)
              refine g_goto (M := mX11_goes) (pc := 73) (tgt := 32) dX11_goes_73 (k := ?_)
              refine g_less (leL_s (leL_s (leL_s (leL_s (leL_s (leL_n leL_0)))))) ?_
              refine ih32 _ _ _ ?_ ?_
              · omega
              · skip
                refine ⟨?_, ?_, ?_, ?_, ?_, ?_⟩
                · exact hI49
                · exact hF49
                · omega
                · omega
                · first | omega | (rw [hG49 69 28 rfl]; omega)
                · omega
            · skip
              refine g_iload_n (M := mX11_goes) (pc := 59) dX11_goes_59 rfl (k := ?_)
              refine g_if_ge (M := mX11_goes) (pc := 60) (tgt := 68) (by omega) dX11_goes_60 (k1 := fun h60 => ?_) (k2 := fun h60 => ?_)
              · skip
                refine g_iload_n (M := mX11_goes) (pc := 68) dX11_goes_68 rfl (k := ?_)
                refine g_istore_3 (M := mX11_goes) (pc := 69) dX11_goes_69 (k := ?_)
                refine g_iinc_4 (M := mX11_goes) (pc := 70) dX11_goes_70 (k := ?_)
                refine g_goto (M := mX11_goes) (pc := 73) (tgt := 32) dX11_goes_73 (k := ?_)
                refine g_less (leL_s (leL_s (leL_s (leL_s (leL_s (leL_n leL_0)))))) ?_
                refine ih32 _ _ _ ?_ ?_
                · omega
                · skip
                  refine ⟨?_, ?_, ?_, ?_, ?_, ?_⟩
                  · exact hI49
                  · exact hF49
                  · omega
                  · omega
                  · first | omega | (rw [hG49 69 28 rfl]; omega)
                  · omega
              · skip
                refine g_iload (M := mX11_goes) (pc := 63) dX11_goes_63 rfl (k := ?_)
                refine g_goto (M := mX11_goes) (pc := 65) (tgt := 69) dX11_goes_65 (k := ?_)
                refine g_istore_3 (M := mX11_goes) (pc := 69) dX11_goes_69 (k := ?_)
                refine g_iinc_4 (M := mX11_goes) (pc := 70) dX11_goes_70 (k := ?_)
                refine g_goto (M := mX11_goes) (pc := 73) (tgt := 32) dX11_goes_73 (k := ?_)
                refine g_less (leL_s (leL_s (leL_s (leL_s (leL_s (leL_n leL_0)))))) ?_
                refine ih32 _ _ _ ?_ ?_
                · omega
                · skip
                  refine ⟨?_, ?_, ?_, ?_, ?_, ?_⟩
                  · exact hI49
                  · exact hF49
                  · omega
                  · omega
                  · first | omega | (rw [hG49 69 28 rfl]; omega)
                  · omega
      refine loop32 _ _ _ _ (Nat.lt_succ_self _) ?_
      refine ⟨?_, ?_, ?_, ?_, ?_, ?_⟩
      · exact hI23
      · exact hF23
      · omega
      · omega
      · first | omega | (rw [hG49 69 28 rfl]; omega)
      · omega
    · skip
      refine g_iconst (M := mX11_goes) (pc := 18) dX11_goes_18 (k := ?_)
      refine g_iret (M := mX11_goes) (pc := 19) rfl dX11_goes_19 rfl ⟨_, _, rfl, rfl, ?_⟩
      refine ⟨?_, ?_⟩
      · exact hI
      · exact (Fr.rf)
set_option maxHeartbeats 4000000 in
set_option maxRecDepth 20000 in
theorem c_X11_round (Γ : KT) (t : Nat) (σ : Nat → Int → Int) (f : Int) (s : Int) (w : Int) (hI : InvJ σ) (hS : JS σ) (hf : R32 f) (hs : R32 s) (hw : R32 w) : Ct Γ mX11_round 7 (0, 0) [vR Γ 69, vI f, vI s, vI w] (113, ρT t, σ) (pI 113 (ρT t) (fun r σ' => (InvJ σ') ∧ (Fr scJ σ σ'))) := by
  refine Ct.of rfl (Nat.le_of_ble_eq_true rfl) ?_
  show G Γ mX11_round 7 (0, 0) _ (0, 0) 0 [some (vR Γ 69), some (vI f), some (vI s), some (vI w), none, none, none, none, none, none] [] (113, ρT t, σ)
  refine g_aload_n (M := mX11_round) (pc := 0) dX11_round_0 rfl (k := ?_)
  refine g_iload_n (M := mX11_round) (pc := 1) dX11_round_1 rfl (k := ?_)
  refine g_cV1I (M := mX11_round) (pc := 2) (c_X11_isFolk Γ t _ _ hI (by omega)) qX11_isFolk vX11_isFolk sX11_isFolk kX11_236 dX11_round_2 (kk := ?_)
  rintro _ _ ⟨e1, e⟩; rw [e1, e]; clear e1 e
  have hb2_69 := jv69_1 hI 1 (by omega) (by omega)
  refine g_if_eqB (M := mX11_round) (pc := 5) (tgt := 30) dX11_round_5 (k1 := fun h5 => ?_) (k2 := fun h5 => ?_)
  · skip
    refine g_iconst (M := mX11_round) (pc := 30) dX11_round_30 (k := ?_)
    refine g_iret (M := mX11_round) (pc := 31) rfl dX11_round_31 rfl ⟨_, _, rfl, rfl, ?_⟩
    refine ⟨?_, ?_⟩
    · exact hI
    · exact (Fr.rf)
  · skip
    refine g_aload_n (M := mX11_round) (pc := 8) dX11_round_8 rfl (k := ?_)
    refine g_iload_n (M := mX11_round) (pc := 9) dX11_round_9 rfl (k := ?_)
    refine g_iconst (M := mX11_round) (pc := 10) dX11_round_10 (k := ?_)
    refine g_iconst (M := mX11_round) (pc := 11) dX11_round_11 (k := ?_)
    refine g_cV3I (M := mX11_round) (pc := 12) (c_X11_in Γ t _ _ _ _ (by omega) (by omega) (by omega)) qX11_in vX11_in sX11_in kX11_224 dX11_round_12 (kk := ?_)
    rintro _ _ ⟨e1, e⟩; rw [e1, e]; clear e1 e
    refine g_if_neB (M := mX11_round) (pc := 15) (tgt := 32) dX11_round_15 (k1 := fun h15 => ?_) (k2 := fun h15 => ?_)
    · skip
      refine g_aload_n (M := mX11_round) (pc := 32) dX11_round_32 rfl (k := ?_)
      refine g_iload_n (M := mX11_round) (pc := 33) dX11_round_33 rfl (k := ?_)
      refine g_iconst (M := mX11_round) (pc := 34) dX11_round_34 (k := ?_)
      refine g_iconst (M := mX11_round) (pc := 35) dX11_round_35 (k := ?_)
      refine g_aload_n (M := mX11_round) (pc := 36) dX11_round_36 rfl (k := ?_)
      refine g_get (M := mX11_round) (pc := 37) (ji := 0) (by rfl) fX11_0 kX11_7 dX11_round_37 (kk := fun hr37 => ?_)
      have hb37 := jv69_0 hI 0 (by omega) (by omega)
      refine g_ishl (M := mX11_round) (pc := 40) dX11_round_40 (k := ?_)
      have hz40 := zshlR 1 (σ 69 0)
      have hzz := zshl1 (h := σ 69 0) (by omega)
      refine g_iconst (M := mX11_round) (pc := 41) dX11_round_41 (k := ?_)
      refine g_isub (M := mX11_round) (pc := 42) dX11_round_42 (k := ?_)
      refine g_cV3I (M := mX11_round) (pc := 43) (c_X11_in Γ t _ _ _ _ (by omega) (by omega) (by omega)) qX11_in vX11_in sX11_in kX11_224 dX11_round_43 (kk := ?_)
      rintro _ _ ⟨e1, e⟩; rw [e1, e]; clear e1 e
      refine g_if_eqB (M := mX11_round) (pc := 46) (tgt := 58) dX11_round_46 (k1 := fun h46 => ?_) (k2 := fun h46 => ?_)
      · skip
        refine g_bipush (M := mX11_round) (pc := 58) dX11_round_58 (k := ?_)
        refine g_iret (M := mX11_round) (pc := 60) rfl dX11_round_60 rfl ⟨_, _, rfl, rfl, ?_⟩
        refine ⟨?_, ?_⟩
        · exact hI
        · exact (Fr.rf)
      · skip
        refine g_aload_n (M := mX11_round) (pc := 49) dX11_round_49 rfl (k := ?_)
        refine g_iload_n (M := mX11_round) (pc := 50) dX11_round_50 rfl (k := ?_)
        refine g_cV1I (M := mX11_round) (pc := 51) (c_X11_ones6 Γ t _ _ (by omega)) qX11_ones vX11_ones sX11_ones kX11_311 dX11_round_51 (kk := ?_)
        rintro r51 _ ⟨hp51, e⟩; rw [e]; clear e
        have hpb := pop_b (s := s) (by omega) (by omega)
        refine g_iconst (M := mX11_round) (pc := 54) dX11_round_54 (k := ?_)
        refine g_icmp_le (M := mX11_round) (pc := 55) (tgt := 61) (by omega) (by omega) dX11_round_55 (k1 := fun h55 => ?_) (k2 := fun h55 => ?_)
        · skip
          refine g_aload_n (M := mX11_round) (pc := 61) dX11_round_61 rfl (k := ?_)
          refine g_iload_n (M := mX11_round) (pc := 62) dX11_round_62 rfl (k := ?_)
          refine g_cV1I (M := mX11_round) (pc := 63) (c_X11_ones6 Γ t _ _ (by omega)) qX11_ones vX11_ones sX11_ones kX11_311 dX11_round_63 (kk := ?_)
          rintro r63 _ ⟨hp63, e⟩; rw [e]; clear e
          have hfb := facI_5 (n := popc s) (by omega)
          refine g_istore_4 (M := mX11_round) (pc := 66) dX11_round_66 (k := ?_)
          refine g_iconst (M := mX11_round) (pc := 68) dX11_round_68 (k := ?_)
          refine g_istore_5 (M := mX11_round) (pc := 69) dX11_round_69 (k := ?_)
          refine g_iconst (M := mX11_round) (pc := 71) dX11_round_71 (k := ?_)
          refine g_istore_6 (M := mX11_round) (pc := 72) dX11_round_72 (k := ?_)
          refine g_iconst (M := mX11_round) (pc := 74) dX11_round_74 (k := ?_)
          refine g_istore_7 (M := mX11_round) (pc := 75) dX11_round_75 (k := ?_)
          have loop77 : ∀ (N : Nat) (τ77 : Nat → Int → Int) (mo : Int) (le : Int) (nu : Int), ((121 - nu).toNat) < N → ((InvJ τ77) ∧ (Fr scJ σ τ77) ∧ (-1 ≤ mo ∧ mo ≤ 5) ∧ (0 ≤ le ∧ le ≤ 2000000) ∧ (0 ≤ nu ∧ nu ≤ 120)) → G Γ mX11_round 7 (0, 0) (pI 113 (ρT t) (fun r σ' => (InvJ σ') ∧ (Fr scJ σ σ'))) (0, 0) 77 [some (vR Γ 69), some (vI f), some (vI s), some (vI w), some (vI r63), some (vI mo), some (vI le), some (vI nu), none, none] [] (113, ρT t, τ77) := by
            intro N
            induction N with
            | zero => intro τ77 mo le nu hmu77 hinv77; exact absurd hmu77 (Nat.not_lt_zero _)
            | succ N ih77 =>
              intro τ77 mo le nu hmu77 hinv77
              obtain ⟨hI77, hF77, hb77_mo, hb77_le, hb77_nu⟩ := hinv77
              have he77_69_1 := hF77 69 1 rfl
              refine g_aload_n (M := mX11_round) (pc := 77) dX11_round_77 rfl (k := ?_)
              refine g_iload_n (M := mX11_round) (pc := 78) dX11_round_78 rfl (k := ?_)
              refine g_iload (M := mX11_round) (pc := 79) dX11_round_79 rfl (k := ?_)
              refine g_cV2I (M := mX11_round) (pc := 81) (c_X11_layOrder Γ t _ _ _ hI77 (by omega) (by omega) (by omega)) qX11_layOrder vX11_layOrder sX11_layOrder kX11_346 dX11_round_81 (kk := ?_)
              rintro r81 τ81 ⟨hf81, hI81, hG81⟩
              have hF81 : Fr scJ σ τ81 := by refine Fr.tr ?_ (Fr.mono hG81 sb_jcO_scJ); exact hF77
              refine g_if_eq (M := mX11_round) (pc := 84) (tgt := 207) (by omega) dX11_round_84 (k1 := fun h84 => ?_) (k2 := fun h84 => ?_)
              · skip
                refine g_iload_n (M := mX11_round) (pc := 207) dX11_round_207 rfl (k := ?_)
                refine g_if_ne (M := mX11_round) (pc := 208) (tgt := 216) (by omega) dX11_round_208 (k1 := fun h208 => ?_) (k2 := fun h208 => ?_)
                · skip
                  refine g_iload_n (M := mX11_round) (pc := 216) dX11_round_216 rfl (k := ?_)
                  refine g_iconst (M := mX11_round) (pc := 217) dX11_round_217 (k := ?_)
                  refine g_icmp_ne (M := mX11_round) (pc := 218) (tgt := 226) (by omega) (by omega) dX11_round_218 (k1 := fun h218 => ?_) (k2 := fun h218 => ?_)
                  · skip
                    refine g_iload_n (M := mX11_round) (pc := 226) dX11_round_226 rfl (k := ?_)
                    refine g_bipush (M := mX11_round) (pc := 227) dX11_round_227 (k := ?_)
                    refine g_isub (M := mX11_round) (pc := 229) dX11_round_229 (k := ?_)
                    refine g_iload (M := mX11_round) (pc := 230) dX11_round_230 rfl (k := ?_)
                    refine g_icmp_ge (M := mX11_round) (pc := 232) (tgt := 247) (by omega) (by omega) dX11_round_232 (k1 := fun h232 => ?_) (k2 := fun h232 => ?_)
                    · skip
                      refine g_bipush (M := mX11_round) (pc := 247) dX11_round_247 (k := ?_)
                      refine g_iret (M := mX11_round) (pc := 249) rfl dX11_round_249 rfl ⟨_, _, rfl, rfl, ?_⟩
                      refine ⟨?_, ?_⟩
                      · exact hI81
                      · exact hF81
                    · skip
                      refine g_aload_n (M := mX11_round) (pc := 235) dX11_round_235 rfl (k := ?_)
                      refine g_getr (M := mX11_round) (pc := 236) (by rfl) fX11_37 kX11_123 dX11_round_236 (by rfl) (kk := ?_)
                      refine g_iload_n (M := mX11_round) (pc := 239) dX11_round_239 rfl (k := ?_)
                      refine g_bipush (M := mX11_round) (pc := 240) dX11_round_240 (k := ?_)
                      refine g_isub (M := mX11_round) (pc := 242) dX11_round_242 (k := ?_)
                      refine g_iald (M := mX11_round) (pc := 243) (by rfl) (by omega) (by omega) dX11_round_243 (kk := fun hr243 => ?_)
                      refine g_goto (M := mX11_round) (pc := 244) (tgt := 249) dX11_round_244 (k := ?_)
                      refine g_iret (M := mX11_round) (pc := 249) rfl dX11_round_249 rfl ⟨_, _, rfl, rfl, ?_⟩
                      refine ⟨?_, ?_⟩
                      · exact hI81
                      · exact hF81
                  · skip
                    refine g_iload (M := mX11_round) (pc := 221) dX11_round_221 rfl (k := ?_)
                    refine g_goto (M := mX11_round) (pc := 223) (tgt := 249) dX11_round_223 (k := ?_)
                    refine g_iret (M := mX11_round) (pc := 249) rfl dX11_round_249 rfl ⟨_, _, rfl, rfl, ?_⟩
                    refine ⟨?_, ?_⟩
                    · exact hI81
                    · exact hF81
                · skip
                  refine g_iload (M := mX11_round) (pc := 211) dX11_round_211 rfl (k := ?_)
                  refine g_goto (M := mX11_round) (pc := 213) (tgt := 249) dX11_round_213 (k := ?_)
                  refine g_iret (M := mX11_round) (pc := 249) rfl dX11_round_249 rfl ⟨_, _, rfl, rfl, ?_⟩
                  refine ⟨?_, ?_⟩
                  · exact hI81
                  · exact hF81
              · skip
                refine g_aload_n (M := mX11_round) (pc := 87) dX11_round_87 rfl (k := ?_)
                refine g_iload_n (M := mX11_round) (pc := 88) dX11_round_88 rfl (k := ?_)
                refine g_iconst (M := mX11_round) (pc := 89) dX11_round_89 (k := ?_)
                refine g_cV2V (M := mX11_round) (pc := 90) (c_X11_beginNight Γ t _ _ _ hI81 (by omega) (by omega)) qX11_beginNight vX11_beginNight sX11_beginNight kX11_336 dX11_round_90 (kk := ?_)
                rintro τ90 ⟨hw90, hm90, hI90, hG90⟩
                have hk90_69_1 := hG90 69 1 rfl
                have hF90 : Fr scJ σ τ90 := by refine Fr.tr ?_ (Fr.mono hG90 sb_jcN_scJ); exact hF81
                refine g_iconst (M := mX11_round) (pc := 93) dX11_round_93 (k := ?_)
                refine g_istore_8 (M := mX11_round) (pc := 94) dX11_round_94 (k := ?_)
                refine g_iconst (M := mX11_round) (pc := 96) dX11_round_96 (k := ?_)
                refine g_istore_9 (M := mX11_round) (pc := 97) dX11_round_97 (k := ?_)
                have loop99 : ∀ (N : Nat) (τ99 : Nat → Int → Int) (ma : Int) (q : Int), ((6 - q).toNat) < N → ((InvJ τ99) ∧ (Fr scJ σ τ99) ∧ (0 ≤ ma ∧ ma ≤ q) ∧ (0 ≤ q ∧ q ≤ 5) ∧ (τ99 69 28 = f) ∧ (τ99 69 29 ≤ 103000 * q)) → G Γ mX11_round 7 (0, 0) (pI 113 (ρT t) (fun r σ' => (InvJ σ') ∧ (Fr scJ σ σ'))) (0, 0) 99 [some (vR Γ 69), some (vI f), some (vI s), some (vI w), some (vI r63), some (vI mo), some (vI le), some (vI nu), some (vI ma), some (vI q)] [] (113, ρT t, τ99) := by
                  intro N
                  induction N with
                  | zero => intro τ99 ma q hmu99 hinv99; exact absurd hmu99 (Nat.not_lt_zero _)
                  | succ N ih99 =>
                    intro τ99 ma q hmu99 hinv99
                    obtain ⟨hI99, hF99, hb99_ma, hb99_q, hx99_0, hx99_1⟩ := hinv99
                    have he99_69_1 := hF99 69 1 rfl
                    refine g_iload (M := mX11_round) (pc := 99) dX11_round_99 rfl (k := ?_)
                    refine g_iload (M := mX11_round) (pc := 101) dX11_round_101 rfl (k := ?_)
                    refine g_icmp_ge (M := mX11_round) (pc := 103) (tgt := 136) (by omega) (by omega) dX11_round_103 (k1 := fun h103 => ?_) (k2 := fun h103 => ?_)
                    · skip
                      refine g_iload (M := mX11_round) (pc := 136) dX11_round_136 rfl (k := ?_)
                      refine g_iload (M := mX11_round) (pc := 138) dX11_round_138 rfl (k := ?_)
                      refine g_icmp_lt (M := mX11_round) (pc := 140) (tgt := 201) (by omega) (by omega) dX11_round_140 (k1 := fun h140 => ?_) (k2 := fun h140 => ?_)
                      · skip
                        refine g_iinc_7 (M := mX11_round) (pc := 201) dX11_round_201 (k := ?_)
                        refine g_goto (M := mX11_round) (pc := 204) (tgt := 77) dX11_round_204 (k := ?_)
                        refine g_less (leL_s (leL_s (leL_s (leL_s (leL_s (leL_s (leL_s (leL_s (leL_n (leL_n leL_0)))))))))) ?_
                        refine ih77 _ _ _ _ ?_ ?_
                        · omega
                        · skip
                          refine ⟨?_, ?_, ?_, ?_, ?_⟩
                          · exact hI99
                          · exact hF99
                          · omega
                          · omega
                          · omega
                      · skip
                        refine g_iload (M := mX11_round) (pc := 143) dX11_round_143 rfl (k := ?_)
                        refine g_iload (M := mX11_round) (pc := 145) dX11_round_145 rfl (k := ?_)
                        refine g_icmp_ne (M := mX11_round) (pc := 147) (tgt := 162) (by omega) (by omega) dX11_round_147 (k1 := fun h147 => ?_) (k2 := fun h147 => ?_)
                        · skip
                          refine g_iload (M := mX11_round) (pc := 162) dX11_round_162 rfl (k := ?_)
                          refine g_istore_5 (M := mX11_round) (pc := 164) dX11_round_164 (k := ?_)
                          refine g_aload_n (M := mX11_round) (pc := 166) dX11_round_166 rfl (k := ?_)
                          refine g_get (M := mX11_round) (pc := 167) (ji := 29) (by rfl) fX11_29 kX11_99 dX11_round_167 (kk := fun hr167 => ?_)
                          have hb167 := jv69_29 hI99 29 (by omega) (by omega)
                          refine g_istore_6 (M := mX11_round) (pc := 170) dX11_round_170 (k := ?_)
                          refine g_iconst (M := mX11_round) (pc := 172) dX11_round_172 (k := ?_)
                          refine g_istore_9 (M := mX11_round) (pc := 173) dX11_round_173 (k := ?_)
                          have loop175 : ∀ (N : Nat) (τ175 : Nat → Int → Int) (q2 : Int), ((6 - q2).toNat) < N → ((InvJ τ175) ∧ (Fr scJ σ τ175) ∧ (0 ≤ q2 ∧ q2 ≤ 5)) → G Γ mX11_round 7 (0, 0) (pI 113 (ρT t) (fun r σ' => (InvJ σ') ∧ (Fr scJ σ σ'))) (0, 0) 175 [some (vR Γ 69), some (vI f), some (vI s), some (vI w), some (vI r63), some (vI ma), some (vI (τ99 69 29)), some (vI nu), some (vI ma), some (vI q2)] [] (113, ρT t, τ175) := by
                            intro N
                            induction N with
                            | zero => intro τ175 q2 hmu175 hinv175; exact absurd hmu175 (Nat.not_lt_zero _)
                            | succ N ih175 =>
                              intro τ175 q2 hmu175 hinv175
                              obtain ⟨hI175, hF175, hb175_q2⟩ := hinv175
                              refine g_iload (M := mX11_round) (pc := 175) dX11_round_175 rfl (k := ?_)
                              refine g_iconst (M := mX11_round) (pc := 177) dX11_round_177 (k := ?_)
                              refine g_icmp_ge (M := mX11_round) (pc := 178) (tgt := 201) (by omega) (by omega) dX11_round_178 (k1 := fun h178 => ?_) (k2 := fun h178 => ?_)
                              · skip
                                refine g_iinc_7 (M := mX11_round) (pc := 201) dX11_round_201 (k := ?_)
                                refine g_goto (M := mX11_round) (pc := 204) (tgt := 77) dX11_round_204 (k := ?_)
                                refine g_less (leL_s (leL_s (leL_s (leL_s (leL_s (leL_s (leL_s (leL_s (leL_n (leL_n leL_0)))))))))) ?_
                                refine ih77 _ _ _ _ ?_ ?_
                                · omega
                                · skip
                                  refine ⟨?_, ?_, ?_, ?_, ?_⟩
                                  · exact hI175
                                  · exact hF175
                                  · omega
                                  · omega
                                  · omega
                              · skip
                                refine g_aload_n (M := mX11_round) (pc := 181) dX11_round_181 rfl (k := ?_)
                                refine g_getr (M := mX11_round) (pc := 182) (by rfl) fX11_37 kX11_123 dX11_round_182 (by rfl) (kk := ?_)
                                refine g_iload (M := mX11_round) (pc := 185) dX11_round_185 rfl (k := ?_)
                                refine g_aload_n (M := mX11_round) (pc := 187) dX11_round_187 rfl (k := ?_)
                                refine g_getr (M := mX11_round) (pc := 188) (by rfl) fX11_36 kX11_120 dX11_round_188 (by rfl) (kk := ?_)
                                refine g_iload (M := mX11_round) (pc := 191) dX11_round_191 rfl (k := ?_)
                                refine g_iald (M := mX11_round) (pc := 193) (by rfl) (by omega) (by omega) dX11_round_193 (kk := fun hr193 => ?_)
                                have hb193 := jv89_0 hI175 q2 (by omega) (by omega)
                                refine g_iast (M := mX11_round) (pc := 194) (by rfl) (by omega) (by omega) (by omega) dX11_round_194 (kk := ?_)
                                refine g_iinc_9 (M := mX11_round) (pc := 195) dX11_round_195 (k := ?_)
                                refine g_goto (M := mX11_round) (pc := 198) (tgt := 175) dX11_round_198 (k := ?_)
                                refine ih175 _ _ ?_ ?_
                                · omega
                                · skip
                                  refine ⟨?_, ?_, ?_⟩
                                  · refine jv_cell ?_ (by rfl); exact hI175
                                  · refine Fr.up ?_ (by first | rfl | (unfold scJ; simp; try omega)); exact hF175
                                  · omega
                          refine loop175 _ _ _ (Nat.lt_succ_self _) ?_
                          refine ⟨?_, ?_, ?_⟩
                          · exact hI99
                          · exact hF99
                          · omega
                        · skip
                          refine g_aload_n (M := mX11_round) (pc := 150) dX11_round_150 rfl (k := ?_)
                          refine g_get (M := mX11_round) (pc := 151) (ji := 29) (by rfl) fX11_29 kX11_99 dX11_round_151 (kk := fun hr151 => ?_)
                          have hb151 := jv69_29 hI99 29 (by omega) (by omega)
                          refine g_iload (M := mX11_round) (pc := 154) dX11_round_154 rfl (k := ?_)
                          refine g_icmp_lt (M := mX11_round) (pc := 156) (tgt := 162) (by omega) (by omega) dX11_round_156 (k1 := fun h156 => ?_) (k2 := fun h156 => ?_)
                          · skip
                            refine g_iload (M := mX11_round) (pc := 162) dX11_round_162 rfl (k := ?_)
                            refine g_istore_5 (M := mX11_round) (pc := 164) dX11_round_164 (k := ?_)
                            refine g_aload_n (M := mX11_round) (pc := 166) dX11_round_166 rfl (k := ?_)
                            refine g_get (M := mX11_round) (pc := 167) (ji := 29) (by rfl) fX11_29 kX11_99 dX11_round_167 (kk := fun hr167 => ?_)
                            refine g_istore_6 (M := mX11_round) (pc := 170) dX11_round_170 (k := ?_)
                            refine g_iconst (M := mX11_round) (pc := 172) dX11_round_172 (k := ?_)
                            refine g_istore_9 (M := mX11_round) (pc := 173) dX11_round_173 (k := ?_)
                            have loop175 : ∀ (N : Nat) (τ175 : Nat → Int → Int) (q2 : Int), ((6 - q2).toNat) < N → ((InvJ τ175) ∧ (Fr scJ σ τ175) ∧ (0 ≤ q2 ∧ q2 ≤ 5)) → G Γ mX11_round 7 (0, 0) (pI 113 (ρT t) (fun r σ' => (InvJ σ') ∧ (Fr scJ σ σ'))) (0, 0) 175 [some (vR Γ 69), some (vI f), some (vI s), some (vI w), some (vI r63), some (vI ma), some (vI (τ99 69 29)), some (vI nu), some (vI ma), some (vI q2)] [] (113, ρT t, τ175) := by
                              intro N
                              induction N with
                              | zero => intro τ175 q2 hmu175 hinv175; exact absurd hmu175 (Nat.not_lt_zero _)
                              | succ N ih175 =>
                                intro τ175 q2 hmu175 hinv175
                                obtain ⟨hI175, hF175, hb175_q2⟩ := hinv175
                                refine g_iload (M := mX11_round) (pc := 175) dX11_round_175 rfl (k := ?_)
                                refine g_iconst (M := mX11_round) (pc := 177) dX11_round_177 (k := ?_)
                                refine g_icmp_ge (M := mX11_round) (pc := 178) (tgt := 201) (by omega) (by omega) dX11_round_178 (k1 := fun h178 => ?_) (k2 := fun h178 => ?_)
                                · skip
                                  refine g_iinc_7 (M := mX11_round) (pc := 201) dX11_round_201 (k := ?_)
                                  refine g_goto (M := mX11_round) (pc := 204) (tgt := 77) dX11_round_204 (k := ?_)
                                  refine g_less (leL_s (leL_s (leL_s (leL_s (leL_s (leL_s (leL_s (leL_s (leL_n (leL_n leL_0)))))))))) ?_
                                  refine ih77 _ _ _ _ ?_ ?_
                                  · omega
                                  · skip
                                    refine ⟨?_, ?_, ?_, ?_, ?_⟩
                                    · exact hI175
                                    · exact hF175
                                    · omega
                                    · omega
                                    · omega
                                · skip
                                  refine g_aload_n (M := mX11_round) (pc := 181) dX11_round_181 rfl (k := ?_)
                                  refine g_getr (M := mX11_round) (pc := 182) (by rfl) fX11_37 kX11_123 dX11_round_182 (by rfl) (kk := ?_)
                                  refine g_iload (M := mX11_round) (pc := 185) dX11_round_185 rfl (k := ?_)
                                  refine g_aload_n (M := mX11_round) (pc := 187) dX11_round_187 rfl (k := ?_)
                                  refine g_getr (M := mX11_round) (pc := 188) (by rfl) fX11_36 kX11_120 dX11_round_188 (by rfl) (kk := ?_)
                                  refine g_iload (M := mX11_round) (pc := 191) dX11_round_191 rfl (k := ?_)
                                  refine g_iald (M := mX11_round) (pc := 193) (by rfl) (by omega) (by omega) dX11_round_193 (kk := fun hr193 => ?_)
                                  have hb193 := jv89_0 hI175 q2 (by omega) (by omega)
                                  refine g_iast (M := mX11_round) (pc := 194) (by rfl) (by omega) (by omega) (by omega) dX11_round_194 (kk := ?_)
                                  refine g_iinc_9 (M := mX11_round) (pc := 195) dX11_round_195 (k := ?_)
                                  refine g_goto (M := mX11_round) (pc := 198) (tgt := 175) dX11_round_198 (k := ?_)
                                  refine ih175 _ _ ?_ ?_
                                  · omega
                                  · skip
                                    refine ⟨?_, ?_, ?_⟩
                                    · refine jv_cell ?_ (by rfl); exact hI175
                                    · refine Fr.up ?_ (by first | rfl | (unfold scJ; simp; try omega)); exact hF175
                                    · omega
                            refine loop175 _ _ _ (Nat.lt_succ_self _) ?_
                            refine ⟨?_, ?_, ?_⟩
                            · exact hI99
                            · exact hF99
                            · omega
                          · skip
                            refine g_goto (M := mX11_round) (pc := 159) (tgt := 201) dX11_round_159 (k := ?_)
                            refine g_iinc_7 (M := mX11_round) (pc := 201) dX11_round_201 (k := ?_)
                            refine g_goto (M := mX11_round) (pc := 204) (tgt := 77) dX11_round_204 (k := ?_)
                            refine g_less (leL_s (leL_s (leL_s (leL_s (leL_s (leL_s (leL_s (leL_s (leL_n (leL_n leL_0)))))))))) ?_
                            refine ih77 _ _ _ _ ?_ ?_
                            · omega
                            · skip
                              refine ⟨?_, ?_, ?_, ?_, ?_⟩
                              · exact hI99
                              · exact hF99
                              · omega
                              · omega
                              · omega
                    · skip
                      refine g_iload (M := mX11_round) (pc := 106) dX11_round_106 rfl (k := ?_)
                      refine g_aload_n (M := mX11_round) (pc := 108) dX11_round_108 rfl (k := ?_)
                      refine g_aload_n (M := mX11_round) (pc := 109) dX11_round_109 rfl (k := ?_)
                      refine g_getr (M := mX11_round) (pc := 110) (by rfl) fX11_36 kX11_120 dX11_round_110 (by rfl) (kk := ?_)
                      refine g_iload (M := mX11_round) (pc := 113) dX11_round_113 rfl (k := ?_)
                      refine g_iald (M := mX11_round) (pc := 115) (by rfl) (by omega) (by omega) dX11_round_115 (kk := fun hr115 => ?_)
                      have hb115 := jv89_0 hI99 q (by omega) (by omega)
                      refine g_cV1I (M := mX11_round) (pc := 116) (c_X11_visits Γ t _ _ hI99 (JS_fr hS (by exact Fr.mono hF99 sb_scJ_jNS)) (by omega) (by omega) (by omega)) qX11_visits vX11_visits sX11_visits kX11_340 dX11_round_116 (kk := ?_)
                      rintro r116 τ116 ⟨hi116, hm116, hI116, hG116⟩
                      have hF116 : Fr scJ σ τ116 := by refine Fr.tr ?_ (Fr.mono hG116 sb_jcV_scJ); exact hF99
                      refine g_if_eq (M := mX11_round) (pc := 119) (tgt := 126) (by omega) dX11_round_119 (k1 := fun h119 => ?_) (k2 := fun h119 => ?_)
                      · skip
                        refine g_iconst (M := mX11_round) (pc := 126) dX11_round_126 (k := ?_)
                        refine g_iadd (M := mX11_round) (pc := 127) dX11_round_127 (k := ?_)
                        refine g_istore_8 (M := mX11_round) (pc := 128) dX11_round_128 (k := ?_)
                        refine g_iinc_9 (M := mX11_round) (pc := 130) dX11_round_130 (k := ?_)
                        refine g_goto (M := mX11_round) (pc := 133) (tgt := 99) dX11_round_133 (k := ?_)
                        refine ih99 _ _ _ ?_ ?_
                        · omega
                        · skip
                          refine ⟨?_, ?_, ?_, ?_, ?_, ?_⟩
                          · exact hI116
                          · exact hF116
                          · omega
                          · omega
                          · first | omega | (rw [hG116 69 28 rfl]; omega)
                          · omega
                      · skip
                        refine g_iconst (M := mX11_round) (pc := 122) dX11_round_122 (k := ?_)
                        refine g_goto (M := mX11_round) (pc := 123) (tgt := 127) dX11_round_123 (k := ?_)
                        refine g_iadd (M := mX11_round) (pc := 127) dX11_round_127 (k := ?_)
                        refine g_istore_8 (M := mX11_round) (pc := 128) dX11_round_128 (k := ?_)
                        refine g_iinc_9 (M := mX11_round) (pc := 130) dX11_round_130 (k := ?_)
                        refine g_goto (M := mX11_round) (pc := 133) (tgt := 99) dX11_round_133 (k := ?_)
                        refine ih99 _ _ _ ?_ ?_
                        · omega
                        · skip
                          refine ⟨?_, ?_, ?_, ?_, ?_, ?_⟩
                          · exact hI116
                          · exact hF116
                          · omega
                          · omega
                          · first | omega | (rw [hG116 69 28 rfl]; omega)
                          · omega
                refine loop99 _ _ _ _ (Nat.lt_succ_self _) ?_
                refine ⟨?_, ?_, ?_, ?_, ?_, ?_⟩
                · exact hI90
                · exact hF90
                · omega
                · omega
                · first | omega | (rw [hG116 69 28 rfl]; omega)
                · omega
          refine loop77 _ _ _ _ _ (Nat.lt_succ_self _) ?_
          refine ⟨?_, ?_, ?_, ?_, ?_⟩
          · exact hI
          · exact (Fr.rf)
          · omega
          · omega
          · omega
        · skip
          refine g_bipush (M := mX11_round) (pc := 58) dX11_round_58 (k := ?_)
          refine g_iret (M := mX11_round) (pc := 60) rfl dX11_round_60 rfl ⟨_, _, rfl, rfl, ?_⟩
          refine ⟨?_, ?_⟩
          · exact hI
          · exact (Fr.rf)
    · skip
      refine g_aload_n (M := mX11_round) (pc := 18) dX11_round_18 rfl (k := ?_)
      refine g_iload_n (M := mX11_round) (pc := 19) dX11_round_19 rfl (k := ?_)
      refine g_bipush (M := mX11_round) (pc := 20) dX11_round_20 (k := ?_)
      refine g_bipush (M := mX11_round) (pc := 22) dX11_round_22 (k := ?_)
      refine g_cV3I (M := mX11_round) (pc := 24) (c_X11_in Γ t _ _ _ _ (by omega) (by omega) (by omega)) qX11_in vX11_in sX11_in kX11_224 dX11_round_24 (kk := ?_)
      rintro _ _ ⟨e1, e⟩; rw [e1, e]; clear e1 e
      refine g_if_neB (M := mX11_round) (pc := 27) (tgt := 32) dX11_round_27 (k1 := fun h27 => ?_) (k2 := fun h27 => ?_)
      · skip
        refine g_aload_n (M := mX11_round) (pc := 32) dX11_round_32 rfl (k := ?_)
        refine g_iload_n (M := mX11_round) (pc := 33) dX11_round_33 rfl (k := ?_)
        refine g_iconst (M := mX11_round) (pc := 34) dX11_round_34 (k := ?_)
        refine g_iconst (M := mX11_round) (pc := 35) dX11_round_35 (k := ?_)
        refine g_aload_n (M := mX11_round) (pc := 36) dX11_round_36 rfl (k := ?_)
        refine g_get (M := mX11_round) (pc := 37) (ji := 0) (by rfl) fX11_0 kX11_7 dX11_round_37 (kk := fun hr37 => ?_)
        have hb37 := jv69_0 hI 0 (by omega) (by omega)
        refine g_ishl (M := mX11_round) (pc := 40) dX11_round_40 (k := ?_)
        have hz40 := zshlR 1 (σ 69 0)
        have hzz := zshl1 (h := σ 69 0) (by omega)
        refine g_iconst (M := mX11_round) (pc := 41) dX11_round_41 (k := ?_)
        refine g_isub (M := mX11_round) (pc := 42) dX11_round_42 (k := ?_)
        refine g_cV3I (M := mX11_round) (pc := 43) (c_X11_in Γ t _ _ _ _ (by omega) (by omega) (by omega)) qX11_in vX11_in sX11_in kX11_224 dX11_round_43 (kk := ?_)
        rintro _ _ ⟨e1, e⟩; rw [e1, e]; clear e1 e
        refine g_if_eqB (M := mX11_round) (pc := 46) (tgt := 58) dX11_round_46 (k1 := fun h46 => ?_) (k2 := fun h46 => ?_)
        · skip
          refine g_bipush (M := mX11_round) (pc := 58) dX11_round_58 (k := ?_)
          refine g_iret (M := mX11_round) (pc := 60) rfl dX11_round_60 rfl ⟨_, _, rfl, rfl, ?_⟩
          refine ⟨?_, ?_⟩
          · exact hI
          · exact (Fr.rf)
        · skip
          refine g_aload_n (M := mX11_round) (pc := 49) dX11_round_49 rfl (k := ?_)
          refine g_iload_n (M := mX11_round) (pc := 50) dX11_round_50 rfl (k := ?_)
          refine g_cV1I (M := mX11_round) (pc := 51) (c_X11_ones6 Γ t _ _ (by omega)) qX11_ones vX11_ones sX11_ones kX11_311 dX11_round_51 (kk := ?_)
          rintro r51 _ ⟨hp51, e⟩; rw [e]; clear e
          have hpb := pop_b (s := s) (by omega) (by omega)
          refine g_iconst (M := mX11_round) (pc := 54) dX11_round_54 (k := ?_)
          refine g_icmp_le (M := mX11_round) (pc := 55) (tgt := 61) (by omega) (by omega) dX11_round_55 (k1 := fun h55 => ?_) (k2 := fun h55 => ?_)
          · skip
            refine g_aload_n (M := mX11_round) (pc := 61) dX11_round_61 rfl (k := ?_)
            refine g_iload_n (M := mX11_round) (pc := 62) dX11_round_62 rfl (k := ?_)
            refine g_cV1I (M := mX11_round) (pc := 63) (c_X11_ones6 Γ t _ _ (by omega)) qX11_ones vX11_ones sX11_ones kX11_311 dX11_round_63 (kk := ?_)
            rintro r63 _ ⟨hp63, e⟩; rw [e]; clear e
            have hfb := facI_5 (n := popc s) (by omega)
            refine g_istore_4 (M := mX11_round) (pc := 66) dX11_round_66 (k := ?_)
            refine g_iconst (M := mX11_round) (pc := 68) dX11_round_68 (k := ?_)
            refine g_istore_5 (M := mX11_round) (pc := 69) dX11_round_69 (k := ?_)
            refine g_iconst (M := mX11_round) (pc := 71) dX11_round_71 (k := ?_)
            refine g_istore_6 (M := mX11_round) (pc := 72) dX11_round_72 (k := ?_)
            refine g_iconst (M := mX11_round) (pc := 74) dX11_round_74 (k := ?_)
            refine g_istore_7 (M := mX11_round) (pc := 75) dX11_round_75 (k := ?_)
            have loop77 : ∀ (N : Nat) (τ77 : Nat → Int → Int) (mo : Int) (le : Int) (nu : Int), ((121 - nu).toNat) < N → ((InvJ τ77) ∧ (Fr scJ σ τ77) ∧ (-1 ≤ mo ∧ mo ≤ 5) ∧ (0 ≤ le ∧ le ≤ 2000000) ∧ (0 ≤ nu ∧ nu ≤ 120)) → G Γ mX11_round 7 (0, 0) (pI 113 (ρT t) (fun r σ' => (InvJ σ') ∧ (Fr scJ σ σ'))) (0, 0) 77 [some (vR Γ 69), some (vI f), some (vI s), some (vI w), some (vI r63), some (vI mo), some (vI le), some (vI nu), none, none] [] (113, ρT t, τ77) := by
              intro N
              induction N with
              | zero => intro τ77 mo le nu hmu77 hinv77; exact absurd hmu77 (Nat.not_lt_zero _)
              | succ N ih77 =>
                intro τ77 mo le nu hmu77 hinv77
                obtain ⟨hI77, hF77, hb77_mo, hb77_le, hb77_nu⟩ := hinv77
                have he77_69_1 := hF77 69 1 rfl
                refine g_aload_n (M := mX11_round) (pc := 77) dX11_round_77 rfl (k := ?_)
                refine g_iload_n (M := mX11_round) (pc := 78) dX11_round_78 rfl (k := ?_)
                refine g_iload (M := mX11_round) (pc := 79) dX11_round_79 rfl (k := ?_)
                refine g_cV2I (M := mX11_round) (pc := 81) (c_X11_layOrder Γ t _ _ _ hI77 (by omega) (by omega) (by omega)) qX11_layOrder vX11_layOrder sX11_layOrder kX11_346 dX11_round_81 (kk := ?_)
                rintro r81 τ81 ⟨hf81, hI81, hG81⟩
                have hF81 : Fr scJ σ τ81 := by refine Fr.tr ?_ (Fr.mono hG81 sb_jcO_scJ); exact hF77
                refine g_if_eq (M := mX11_round) (pc := 84) (tgt := 207) (by omega) dX11_round_84 (k1 := fun h84 => ?_) (k2 := fun h84 => ?_)
                · skip
                  refine g_iload_n (M := mX11_round) (pc := 207) dX11_round_207 rfl (k := ?_)
                  refine g_if_ne (M := mX11_round) (pc := 208) (tgt := 216) (by omega) dX11_round_208 (k1 := fun h208 => ?_) (k2 := fun h208 => ?_)
                  · skip
                    refine g_iload_n (M := mX11_round) (pc := 216) dX11_round_216 rfl (k := ?_)
                    refine g_iconst (M := mX11_round) (pc := 217) dX11_round_217 (k := ?_)
                    refine g_icmp_ne (M := mX11_round) (pc := 218) (tgt := 226) (by omega) (by omega) dX11_round_218 (k1 := fun h218 => ?_) (k2 := fun h218 => ?_)
                    · skip
                      refine g_iload_n (M := mX11_round) (pc := 226) dX11_round_226 rfl (k := ?_)
                      refine g_bipush (M := mX11_round) (pc := 227) dX11_round_227 (k := ?_)
                      refine g_isub (M := mX11_round) (pc := 229) dX11_round_229 (k := ?_)
                      refine g_iload (M := mX11_round) (pc := 230) dX11_round_230 rfl (k := ?_)
                      refine g_icmp_ge (M := mX11_round) (pc := 232) (tgt := 247) (by omega) (by omega) dX11_round_232 (k1 := fun h232 => ?_) (k2 := fun h232 => ?_)
                      · skip
                        refine g_bipush (M := mX11_round) (pc := 247) dX11_round_247 (k := ?_)
                        refine g_iret (M := mX11_round) (pc := 249) rfl dX11_round_249 rfl ⟨_, _, rfl, rfl, ?_⟩
                        refine ⟨?_, ?_⟩
                        · exact hI81
                        · exact hF81
                      · skip
                        refine g_aload_n (M := mX11_round) (pc := 235) dX11_round_235 rfl (k := ?_)
                        refine g_getr (M := mX11_round) (pc := 236) (by rfl) fX11_37 kX11_123 dX11_round_236 (by rfl) (kk := ?_)
                        refine g_iload_n (M := mX11_round) (pc := 239) dX11_round_239 rfl (k := ?_)
                        refine g_bipush (M := mX11_round) (pc := 240) dX11_round_240 (k := ?_)
                        refine g_isub (M := mX11_round) (pc := 242) dX11_round_242 (k := ?_)
                        refine g_iald (M := mX11_round) (pc := 243) (by rfl) (by omega) (by omega) dX11_round_243 (kk := fun hr243 => ?_)
                        refine g_goto (M := mX11_round) (pc := 244) (tgt := 249) dX11_round_244 (k := ?_)
                        refine g_iret (M := mX11_round) (pc := 249) rfl dX11_round_249 rfl ⟨_, _, rfl, rfl, ?_⟩
                        refine ⟨?_, ?_⟩
                        · exact hI81
                        · exact hF81
                    · skip
                      refine g_iload (M := mX11_round) (pc := 221) dX11_round_221 rfl (k := ?_)
                      refine g_goto (M := mX11_round) (pc := 223) (tgt := 249) dX11_round_223 (k := ?_)
                      refine g_iret (M := mX11_round) (pc := 249) rfl dX11_round_249 rfl ⟨_, _, rfl, rfl, ?_⟩
                      refine ⟨?_, ?_⟩
                      · exact hI81
                      · exact hF81
                  · skip
                    refine g_iload (M := mX11_round) (pc := 211) dX11_round_211 rfl (k := ?_)
                    refine g_goto (M := mX11_round) (pc := 213) (tgt := 249) dX11_round_213 (k := ?_)
                    refine g_iret (M := mX11_round) (pc := 249) rfl dX11_round_249 rfl ⟨_, _, rfl, rfl, ?_⟩
                    refine ⟨?_, ?_⟩
                    · exact hI81
                    · exact hF81
                · skip
                  refine g_aload_n (M := mX11_round) (pc := 87) dX11_round_87 rfl (k := ?_)
                  refine g_iload_n (M := mX11_round) (pc := 88) dX11_round_88 rfl (k := ?_)
                  refine g_iconst (M := mX11_round) (pc := 89) dX11_round_89 (k := ?_)
                  refine g_cV2V (M := mX11_round) (pc := 90) (c_X11_beginNight Γ t _ _ _ hI81 (by omega) (by omega)) qX11_beginNight vX11_beginNight sX11_beginNight kX11_336 dX11_round_90 (kk := ?_)
                  rintro τ90 ⟨hw90, hm90, hI90, hG90⟩
                  have hk90_69_1 := hG90 69 1 rfl
                  have hF90 : Fr scJ σ τ90 := by refine Fr.tr ?_ (Fr.mono hG90 sb_jcN_scJ); exact hF81
                  refine g_iconst (M := mX11_round) (pc := 93) dX11_round_93 (k := ?_)
                  refine g_istore_8 (M := mX11_round) (pc := 94) dX11_round_94 (k := ?_)
                  refine g_iconst (M := mX11_round) (pc := 96) dX11_round_96 (k := ?_)
                  refine g_istore_9 (M := mX11_round) (pc := 97) dX11_round_97 (k := ?_)
                  have loop99 : ∀ (N : Nat) (τ99 : Nat → Int → Int) (ma : Int) (q : Int), ((6 - q).toNat) < N → ((InvJ τ99) ∧ (Fr scJ σ τ99) ∧ (0 ≤ ma ∧ ma ≤ q) ∧ (0 ≤ q ∧ q ≤ 5) ∧ (τ99 69 28 = f) ∧ (τ99 69 29 ≤ 103000 * q)) → G Γ mX11_round 7 (0, 0) (pI 113 (ρT t) (fun r σ' => (InvJ σ') ∧ (Fr scJ σ σ'))) (0, 0) 99 [some (vR Γ 69), some (vI f), some (vI s), some (vI w), some (vI r63), some (vI mo), some (vI le), some (vI nu), some (vI ma), some (vI q)] [] (113, ρT t, τ99) := by
                    intro N
                    induction N with
                    | zero => intro τ99 ma q hmu99 hinv99; exact absurd hmu99 (Nat.not_lt_zero _)
                    | succ N ih99 =>
                      intro τ99 ma q hmu99 hinv99
                      obtain ⟨hI99, hF99, hb99_ma, hb99_q, hx99_0, hx99_1⟩ := hinv99
                      have he99_69_1 := hF99 69 1 rfl
                      refine g_iload (M := mX11_round) (pc := 99) dX11_round_99 rfl (k := ?_)
                      refine g_iload (M := mX11_round) (pc := 101) dX11_round_101 rfl (k := ?_)
                      refine g_icmp_ge (M := mX11_round) (pc := 103) (tgt := 136) (by omega) (by omega) dX11_round_103 (k1 := fun h103 => ?_) (k2 := fun h103 => ?_)
                      · skip
                        refine g_iload (M := mX11_round) (pc := 136) dX11_round_136 rfl (k := ?_)
                        refine g_iload (M := mX11_round) (pc := 138) dX11_round_138 rfl (k := ?_)
                        refine g_icmp_lt (M := mX11_round) (pc := 140) (tgt := 201) (by omega) (by omega) dX11_round_140 (k1 := fun h140 => ?_) (k2 := fun h140 => ?_)
                        · skip
                          refine g_iinc_7 (M := mX11_round) (pc := 201) dX11_round_201 (k := ?_)
                          refine g_goto (M := mX11_round) (pc := 204) (tgt := 77) dX11_round_204 (k := ?_)
                          refine g_less (leL_s (leL_s (leL_s (leL_s (leL_s (leL_s (leL_s (leL_s (leL_n (leL_n leL_0)))))))))) ?_
                          refine ih77 _ _ _ _ ?_ ?_
                          · omega
                          · skip
                            refine ⟨?_, ?_, ?_, ?_, ?_⟩
                            · exact hI99
                            · exact hF99
                            · omega
                            · omega
                            · omega
                        · skip
                          refine g_iload (M := mX11_round) (pc := 143) dX11_round_143 rfl (k := ?_)
                          refine g_iload (M := mX11_round) (pc := 145) dX11_round_145 rfl (k := ?_)
                          refine g_icmp_ne (M := mX11_round) (pc := 147) (tgt := 162) (by omega) (by omega) dX11_round_147 (k1 := fun h147 => ?_) (k2 := fun h147 => ?_)
                          · skip
                            refine g_iload (M := mX11_round) (pc := 162) dX11_round_162 rfl (k := ?_)
                            refine g_istore_5 (M := mX11_round) (pc := 164) dX11_round_164 (k := ?_)
                            refine g_aload_n (M := mX11_round) (pc := 166) dX11_round_166 rfl (k := ?_)
                            refine g_get (M := mX11_round) (pc := 167) (ji := 29) (by rfl) fX11_29 kX11_99 dX11_round_167 (kk := fun hr167 => ?_)
                            have hb167 := jv69_29 hI99 29 (by omega) (by omega)
                            refine g_istore_6 (M := mX11_round) (pc := 170) dX11_round_170 (k := ?_)
                            refine g_iconst (M := mX11_round) (pc := 172) dX11_round_172 (k := ?_)
                            refine g_istore_9 (M := mX11_round) (pc := 173) dX11_round_173 (k := ?_)
                            have loop175 : ∀ (N : Nat) (τ175 : Nat → Int → Int) (q2 : Int), ((6 - q2).toNat) < N → ((InvJ τ175) ∧ (Fr scJ σ τ175) ∧ (0 ≤ q2 ∧ q2 ≤ 5)) → G Γ mX11_round 7 (0, 0) (pI 113 (ρT t) (fun r σ' => (InvJ σ') ∧ (Fr scJ σ σ'))) (0, 0) 175 [some (vR Γ 69), some (vI f), some (vI s), some (vI w), some (vI r63), some (vI ma), some (vI (τ99 69 29)), some (vI nu), some (vI ma), some (vI q2)] [] (113, ρT t, τ175) := by
                              intro N
                              induction N with
                              | zero => intro τ175 q2 hmu175 hinv175; exact absurd hmu175 (Nat.not_lt_zero _)
                              | succ N ih175 =>
                                intro τ175 q2 hmu175 hinv175
                                obtain ⟨hI175, hF175, hb175_q2⟩ := hinv175
                                refine g_iload (M := mX11_round) (pc := 175) dX11_round_175 rfl (k := ?_)
                                refine g_iconst (M := mX11_round) (pc := 177) dX11_round_177 (k := ?_)
                                refine g_icmp_ge (M := mX11_round) (pc := 178) (tgt := 201) (by omega) (by omega) dX11_round_178 (k1 := fun h178 => ?_) (k2 := fun h178 => ?_)
                                · skip
                                  refine g_iinc_7 (M := mX11_round) (pc := 201) dX11_round_201 (k := ?_)
                                  refine g_goto (M := mX11_round) (pc := 204) (tgt := 77) dX11_round_204 (k := ?_)
                                  refine g_less (leL_s (leL_s (leL_s (leL_s (leL_s (leL_s (leL_s (leL_s (leL_n (leL_n leL_0)))))))))) ?_
                                  refine ih77 _ _ _ _ ?_ ?_
                                  · omega
                                  · skip
                                    refine ⟨?_, ?_, ?_, ?_, ?_⟩
                                    · exact hI175
                                    · exact hF175
                                    · omega
                                    · omega
                                    · omega
                                · skip
                                  refine g_aload_n (M := mX11_round) (pc := 181) dX11_round_181 rfl (k := ?_)
                                  refine g_getr (M := mX11_round) (pc := 182) (by rfl) fX11_37 kX11_123 dX11_round_182 (by rfl) (kk := ?_)
                                  refine g_iload (M := mX11_round) (pc := 185) dX11_round_185 rfl (k := ?_)
                                  refine g_aload_n (M := mX11_round) (pc := 187) dX11_round_187 rfl (k := ?_)
                                  refine g_getr (M := mX11_round) (pc := 188) (by rfl) fX11_36 kX11_120 dX11_round_188 (by rfl) (kk := ?_)
                                  refine g_iload (M := mX11_round) (pc := 191) dX11_round_191 rfl (k := ?_)
                                  refine g_iald (M := mX11_round) (pc := 193) (by rfl) (by omega) (by omega) dX11_round_193 (kk := fun hr193 => ?_)
                                  have hb193 := jv89_0 hI175 q2 (by omega) (by omega)
                                  refine g_iast (M := mX11_round) (pc := 194) (by rfl) (by omega) (by omega) (by omega) dX11_round_194 (kk := ?_)
                                  refine g_iinc_9 (M := mX11_round) (pc := 195) dX11_round_195 (k := ?_)
                                  refine g_goto (M := mX11_round) (pc := 198) (tgt := 175) dX11_round_198 (k := ?_)
                                  refine ih175 _ _ ?_ ?_
                                  · omega
                                  · skip
                                    refine ⟨?_, ?_, ?_⟩
                                    · refine jv_cell ?_ (by rfl); exact hI175
                                    · refine Fr.up ?_ (by first | rfl | (unfold scJ; simp; try omega)); exact hF175
                                    · omega
                            refine loop175 _ _ _ (Nat.lt_succ_self _) ?_
                            refine ⟨?_, ?_, ?_⟩
                            · exact hI99
                            · exact hF99
                            · omega
                          · skip
                            refine g_aload_n (M := mX11_round) (pc := 150) dX11_round_150 rfl (k := ?_)
                            refine g_get (M := mX11_round) (pc := 151) (ji := 29) (by rfl) fX11_29 kX11_99 dX11_round_151 (kk := fun hr151 => ?_)
                            have hb151 := jv69_29 hI99 29 (by omega) (by omega)
                            refine g_iload (M := mX11_round) (pc := 154) dX11_round_154 rfl (k := ?_)
                            refine g_icmp_lt (M := mX11_round) (pc := 156) (tgt := 162) (by omega) (by omega) dX11_round_156 (k1 := fun h156 => ?_) (k2 := fun h156 => ?_)
                            · skip
                              refine g_iload (M := mX11_round) (pc := 162) dX11_round_162 rfl (k := ?_)
                              refine g_istore_5 (M := mX11_round) (pc := 164) dX11_round_164 (k := ?_)
                              refine g_aload_n (M := mX11_round) (pc := 166) dX11_round_166 rfl (k := ?_)
                              refine g_get (M := mX11_round) (pc := 167) (ji := 29) (by rfl) fX11_29 kX11_99 dX11_round_167 (kk := fun hr167 => ?_)
                              refine g_istore_6 (M := mX11_round) (pc := 170) dX11_round_170 (k := ?_)
                              refine g_iconst (M := mX11_round) (pc := 172) dX11_round_172 (k := ?_)
                              refine g_istore_9 (M := mX11_round) (pc := 173) dX11_round_173 (k := ?_)
                              have loop175 : ∀ (N : Nat) (τ175 : Nat → Int → Int) (q2 : Int), ((6 - q2).toNat) < N → ((InvJ τ175) ∧ (Fr scJ σ τ175) ∧ (0 ≤ q2 ∧ q2 ≤ 5)) → G Γ mX11_round 7 (0, 0) (pI 113 (ρT t) (fun r σ' => (InvJ σ') ∧ (Fr scJ σ σ'))) (0, 0) 175 [some (vR Γ 69), some (vI f), some (vI s), some (vI w), some (vI r63), some (vI ma), some (vI (τ99 69 29)), some (vI nu), some (vI ma), some (vI q2)] [] (113, ρT t, τ175) := by
                                intro N
                                induction N with
                                | zero => intro τ175 q2 hmu175 hinv175; exact absurd hmu175 (Nat.not_lt_zero _)
                                | succ N ih175 =>
                                  intro τ175 q2 hmu175 hinv175
                                  obtain ⟨hI175, hF175, hb175_q2⟩ := hinv175
                                  refine g_iload (M := mX11_round) (pc := 175) dX11_round_175 rfl (k := ?_)
                                  refine g_iconst (M := mX11_round) (pc := 177) dX11_round_177 (k := ?_)
                                  refine g_icmp_ge (M := mX11_round) (pc := 178) (tgt := 201) (by omega) (by omega) dX11_round_178 (k1 := fun h178 => ?_) (k2 := fun h178 => ?_)
                                  · skip
                                    refine g_iinc_7 (M := mX11_round) (pc := 201) dX11_round_201 (k := ?_)
                                    refine g_goto (M := mX11_round) (pc := 204) (tgt := 77) dX11_round_204 (k := ?_)
                                    refine g_less (leL_s (leL_s (leL_s (leL_s (leL_s (leL_s (leL_s (leL_s (leL_n (leL_n leL_0)))))))))) ?_
                                    refine ih77 _ _ _ _ ?_ ?_
                                    · omega
                                    · skip
                                      refine ⟨?_, ?_, ?_, ?_, ?_⟩
                                      · exact hI175
                                      · exact hF175
                                      · omega
                                      · omega
                                      · omega
                                  · skip
                                    refine g_aload_n (M := mX11_round) (pc := 181) dX11_round_181 rfl (k := ?_)
                                    refine g_getr (M := mX11_round) (pc := 182) (by rfl) fX11_37 kX11_123 dX11_round_182 (by rfl) (kk := ?_)
                                    refine g_iload (M := mX11_round) (pc := 185) dX11_round_185 rfl (k := ?_)
                                    refine g_aload_n (M := mX11_round) (pc := 187) dX11_round_187 rfl (k := ?_)
                                    refine g_getr (M := mX11_round) (pc := 188) (by rfl) fX11_36 kX11_120 dX11_round_188 (by rfl) (kk := ?_)
                                    refine g_iload (M := mX11_round) (pc := 191) dX11_round_191 rfl (k := ?_)
                                    refine g_iald (M := mX11_round) (pc := 193) (by rfl) (by omega) (by omega) dX11_round_193 (kk := fun hr193 => ?_)
                                    have hb193 := jv89_0 hI175 q2 (by omega) (by omega)
                                    refine g_iast (M := mX11_round) (pc := 194) (by rfl) (by omega) (by omega) (by omega) dX11_round_194 (kk := ?_)
                                    refine g_iinc_9 (M := mX11_round) (pc := 195) dX11_round_195 (k := ?_)
                                    refine g_goto (M := mX11_round) (pc := 198) (tgt := 175) dX11_round_198 (k := ?_)
                                    refine ih175 _ _ ?_ ?_
                                    · omega
                                    · skip
                                      refine ⟨?_, ?_, ?_⟩
                                      · refine jv_cell ?_ (by rfl); exact hI175
                                      · refine Fr.up ?_ (by first | rfl | (unfold scJ; simp; try omega)); exact hF175
                                      · omega
                              refine loop175 _ _ _ (Nat.lt_succ_self _) ?_
                              refine ⟨?_, ?_, ?_⟩
                              · exact hI99
                              · exact hF99
                              · omega
                            · skip
                              refine g_goto (M := mX11_round) (pc := 159) (tgt := 201) dX11_round_159 (k := ?_)
                              refine g_iinc_7 (M := mX11_round) (pc := 201) dX11_round_201 (k := ?_)
                              refine g_goto (M := mX11_round) (pc := 204) (tgt := 77) dX11_round_204 (k := ?_)
                              refine g_less (leL_s (leL_s (leL_s (leL_s (leL_s (leL_s (leL_s (leL_s (leL_n (leL_n leL_0)))))))))) ?_
                              refine ih77 _ _ _ _ ?_ ?_
                              · omega
                              · skip
                                refine ⟨?_, ?_, ?_, ?_, ?_⟩
                                · exact hI99
                                · exact hF99
                                · omega
                                · omega
                                · omega
                      · skip
                        refine g_iload (M := mX11_round) (pc := 106) dX11_round_106 rfl (k := ?_)
                        refine g_aload_n (M := mX11_round) (pc := 108) dX11_round_108 rfl (k := ?_)
                        refine g_aload_n (M := mX11_round) (pc := 109) dX11_round_109 rfl (k := ?_)
                        refine g_getr (M := mX11_round) (pc := 110) (by rfl) fX11_36 kX11_120 dX11_round_110 (by rfl) (kk := ?_)
                        refine g_iload (M := mX11_round) (pc := 113) dX11_round_113 rfl (k := ?_)
                        refine g_iald (M := mX11_round) (pc := 115) (by rfl) (by omega) (by omega) dX11_round_115 (kk := fun hr115 => ?_)
                        have hb115 := jv89_0 hI99 q (by omega) (by omega)
                        refine g_cV1I (M := mX11_round) (pc := 116) (c_X11_visits Γ t _ _ hI99 (JS_fr hS (by exact Fr.mono hF99 sb_scJ_jNS)) (by omega) (by omega) (by omega)) qX11_visits vX11_visits sX11_visits kX11_340 dX11_round_116 (kk := ?_)
                        rintro r116 τ116 ⟨hi116, hm116, hI116, hG116⟩
                        have hF116 : Fr scJ σ τ116 := by refine Fr.tr ?_ (Fr.mono hG116 sb_jcV_scJ); exact hF99
                        refine g_if_eq (M := mX11_round) (pc := 119) (tgt := 126) (by omega) dX11_round_119 (k1 := fun h119 => ?_) (k2 := fun h119 => ?_)
                        · skip
                          refine g_iconst (M := mX11_round) (pc := 126) dX11_round_126 (k := ?_)
                          refine g_iadd (M := mX11_round) (pc := 127) dX11_round_127 (k := ?_)
                          refine g_istore_8 (M := mX11_round) (pc := 128) dX11_round_128 (k := ?_)
                          refine g_iinc_9 (M := mX11_round) (pc := 130) dX11_round_130 (k := ?_)
                          refine g_goto (M := mX11_round) (pc := 133) (tgt := 99) dX11_round_133 (k := ?_)
                          refine ih99 _ _ _ ?_ ?_
                          · omega
                          · skip
                            refine ⟨?_, ?_, ?_, ?_, ?_, ?_⟩
                            · exact hI116
                            · exact hF116
                            · omega
                            · omega
                            · first | omega | (rw [hG116 69 28 rfl]; omega)
                            · omega
                        · skip
                          refine g_iconst (M := mX11_round) (pc := 122) dX11_round_122 (k := ?_)
                          refine g_goto (M := mX11_round) (pc := 123) (tgt := 127) dX11_round_123 (k := ?_)
                          refine g_iadd (M := mX11_round) (pc := 127) dX11_round_127 (k := ?_)
                          refine g_istore_8 (M := mX11_round) (pc := 128) dX11_round_128 (k := ?_)
                          refine g_iinc_9 (M := mX11_round) (pc := 130) dX11_round_130 (k := ?_)
                          refine g_goto (M := mX11_round) (pc := 133) (tgt := 99) dX11_round_133 (k := ?_)
                          refine ih99 _ _ _ ?_ ?_
                          · omega
                          · skip
                            refine ⟨?_, ?_, ?_, ?_, ?_, ?_⟩
                            · exact hI116
                            · exact hF116
                            · omega
                            · omega
                            · first | omega | (rw [hG116 69 28 rfl]; omega)
                            · omega
                  refine loop99 _ _ _ _ (Nat.lt_succ_self _) ?_
                  refine ⟨?_, ?_, ?_, ?_, ?_, ?_⟩
                  · exact hI90
                  · exact hF90
                  · omega
                  · omega
                  · first | omega | (rw [hG116 69 28 rfl]; omega)
                  · omega
            refine loop77 _ _ _ _ _ (Nat.lt_succ_self _) ?_
            refine ⟨?_, ?_, ?_, ?_, ?_⟩
            · exact hI
            · exact (Fr.rf)
            · omega
            · omega
            · omega
          · skip
            refine g_bipush (M := mX11_round) (pc := 58) dX11_round_58 (k := ?_)
            refine g_iret (M := mX11_round) (pc := 60) rfl dX11_round_60 rfl ⟨_, _, rfl, rfl, ?_⟩
            refine ⟨?_, ?_⟩
            · exact hI
            · exact (Fr.rf)
      · skip
        refine g_iconst (M := mX11_round) (pc := 30) dX11_round_30 (k := ?_)
        refine g_iret (M := mX11_round) (pc := 31) rfl dX11_round_31 rfl ⟨_, _, rfl, rfl, ?_⟩
        refine ⟨?_, ?_⟩
        · exact hI
        · exact (Fr.rf)
set_option maxHeartbeats 4000000 in
set_option maxRecDepth 20000 in
theorem c_X11_keep (Γ : KT) (t : Nat) (σ : Nat → Int → Int) (h : Int) (f : Int) (hI : InvJ σ) (hS : JS σ) (hh : R32 h) (hf : R32 f) : Ct Γ mX11_keep 7 (0, 0) [vR Γ 69, vI h, vI f] (113, ρT t, σ) (pI 113 (ρT t) (fun r σ' => (∀ j, σ' 72 j = σ 72 j) ∧ (InvJ σ') ∧ (Fr jcKeep σ σ'))) := by
  refine Ct.of rfl (Nat.le_of_ble_eq_true rfl) ?_
  show G Γ mX11_keep 7 (0, 0) _ (0, 0) 0 [some (vR Γ 69), some (vI h), some (vI f), none, none, none] [] (113, ρT t, σ)
  refine g_aload_n (M := mX11_keep) (pc := 0) dX11_keep_0 rfl (k := ?_)
  refine g_iload_n (M := mX11_keep) (pc := 1) dX11_keep_1 rfl (k := ?_)
  refine g_cV1I (M := mX11_keep) (pc := 2) (c_X11_isHouse Γ t _ _ hI (by omega)) qX11_isHouse vX11_isHouse sX11_isHouse kX11_232 dX11_keep_2 (kk := ?_)
  rintro _ _ ⟨e1, e⟩; rw [e1, e]; clear e1 e
  have hb2_69 := jv69_0 hI 0 (by omega) (by omega)
  refine g_if_eqB (M := mX11_keep) (pc := 5) (tgt := 16) dX11_keep_5 (k1 := fun h5 => ?_) (k2 := fun h5 => ?_)
  · skip
    refine g_iconst (M := mX11_keep) (pc := 16) dX11_keep_16 (k := ?_)
    refine g_iret (M := mX11_keep) (pc := 17) rfl dX11_keep_17 rfl ⟨_, _, rfl, rfl, ?_⟩
    refine ⟨?_, ?_, ?_⟩
    · intro j; first | rfl | (by_cases e : j = h; exact (by rw [e]; exact up_same); rw [up_slot e]; exact hx32_0 j e)
    · exact hI
    · exact (Fr.rf)
  · skip
    refine g_aload_n (M := mX11_keep) (pc := 8) dX11_keep_8 rfl (k := ?_)
    refine g_iload_n (M := mX11_keep) (pc := 9) dX11_keep_9 rfl (k := ?_)
    refine g_cV1I (M := mX11_keep) (pc := 10) (c_X11_isFolk Γ t _ _ hI (by omega)) qX11_isFolk vX11_isFolk sX11_isFolk kX11_236 dX11_keep_10 (kk := ?_)
    rintro _ _ ⟨e1, e⟩; rw [e1, e]; clear e1 e
    have hb10_69 := jv69_1 hI 1 (by omega) (by omega)
    refine g_if_neB (M := mX11_keep) (pc := 13) (tgt := 18) dX11_keep_13 (k1 := fun h13 => ?_) (k2 := fun h13 => ?_)
    · skip
      refine g_aload_n (M := mX11_keep) (pc := 18) dX11_keep_18 rfl (k := ?_)
      refine g_getr (M := mX11_keep) (pc := 19) (by rfl) fX11_4 kX11_23 dX11_keep_19 (by rfl) (kk := ?_)
      refine g_iload_n (M := mX11_keep) (pc := 22) dX11_keep_22 rfl (k := ?_)
      refine g_iald (M := mX11_keep) (pc := 23) (by rfl) (by omega) (by omega) dX11_keep_23 (kk := fun hr23 => ?_)
      have hb23 := jv72_0 hI h (by omega) (by omega)
      refine g_istore_3 (M := mX11_keep) (pc := 24) dX11_keep_24 (k := ?_)
      refine g_bipush (M := mX11_keep) (pc := 25) dX11_keep_25 (k := ?_)
      refine g_istore_4 (M := mX11_keep) (pc := 27) dX11_keep_27 (k := ?_)
      refine g_iconst (M := mX11_keep) (pc := 29) dX11_keep_29 (k := ?_)
      refine g_istore_5 (M := mX11_keep) (pc := 30) dX11_keep_30 (k := ?_)
      have loop32 : ∀ (N : Nat) (τ32 : Nat → Int → Int) (fo : Int) (g : Int), ((101 - g).toNat) < N → ((InvJ τ32) ∧ (Fr jcKeep σ τ32) ∧ (-5 ≤ fo ∧ fo ≤ 99) ∧ (0 ≤ g ∧ g ≤ 100) ∧ (∀ j, j ≠ h → τ32 72 j = σ 72 j)) → G Γ mX11_keep 7 (0, 0) (pI 113 (ρT t) (fun r σ' => (∀ j, σ' 72 j = σ 72 j) ∧ (InvJ σ') ∧ (Fr jcKeep σ σ'))) (0, 0) 32 [some (vR Γ 69), some (vI h), some (vI f), some (vI (σ 72 h)), some (vI fo), some (vI g)] [] (113, ρT t, τ32) := by
        intro N
        induction N with
        | zero => intro τ32 fo g hmu32 hinv32; exact absurd hmu32 (Nat.not_lt_zero _)
        | succ N ih32 =>
          intro τ32 fo g hmu32 hinv32
          obtain ⟨hI32, hF32, hb32_fo, hb32_g, hx32_0⟩ := hinv32
          have he32_69_1 := hF32 69 1 rfl
          refine g_iload (M := mX11_keep) (pc := 32) dX11_keep_32 rfl (k := ?_)
          refine g_bipush (M := mX11_keep) (pc := 34) dX11_keep_34 (k := ?_)
          refine g_icmp_ge (M := mX11_keep) (pc := 36) (tgt := 77) (by omega) (by omega) dX11_keep_36 (k1 := fun h36 => ?_) (k2 := fun h36 => ?_)
          · skip
            refine g_aload_n (M := mX11_keep) (pc := 77) dX11_keep_77 rfl (k := ?_)
            refine g_getr (M := mX11_keep) (pc := 78) (by rfl) fX11_4 kX11_23 dX11_keep_78 (by rfl) (kk := ?_)
            refine g_iload_n (M := mX11_keep) (pc := 81) dX11_keep_81 rfl (k := ?_)
            refine g_iload_n (M := mX11_keep) (pc := 82) dX11_keep_82 rfl (k := ?_)
            refine g_iast (M := mX11_keep) (pc := 83) (by rfl) (by omega) (by omega) (by omega) dX11_keep_83 (kk := ?_)
            refine g_iload (M := mX11_keep) (pc := 84) dX11_keep_84 rfl (k := ?_)
            refine g_iret (M := mX11_keep) (pc := 86) rfl dX11_keep_86 rfl ⟨_, _, rfl, rfl, ?_⟩
            refine ⟨?_, ?_, ?_⟩
            · intro j; first | rfl | (by_cases e : j = h; exact (by rw [e]; exact up_same); rw [up_slot e]; exact hx32_0 j e)
            · refine jvu72 ?_ (by omega) (by omega); exact hI32
            · refine Fr.up ?_ (by first | rfl | (unfold jcKeep; simp; try omega)); exact hF32
          · skip
            refine g_iload (M := mX11_keep) (pc := 39) dX11_keep_39 rfl (k := ?_)
            refine g_if_ge (M := mX11_keep) (pc := 41) (tgt := 77) (by omega) dX11_keep_41 (k1 := fun h41 => ?_) (k2 := fun h41 => ?_)
            · skip
              refine g_aload_n (M := mX11_keep) (pc := 77) dX11_keep_77 rfl (k := ?_)
              refine g_getr (M := mX11_keep) (pc := 78) (by rfl) fX11_4 kX11_23 dX11_keep_78 (by rfl) (kk := ?_)
              refine g_iload_n (M := mX11_keep) (pc := 81) dX11_keep_81 rfl (k := ?_)
              refine g_iload_n (M := mX11_keep) (pc := 82) dX11_keep_82 rfl (k := ?_)
              refine g_iast (M := mX11_keep) (pc := 83) (by rfl) (by omega) (by omega) (by omega) dX11_keep_83 (kk := ?_)
              refine g_iload (M := mX11_keep) (pc := 84) dX11_keep_84 rfl (k := ?_)
              refine g_iret (M := mX11_keep) (pc := 86) rfl dX11_keep_86 rfl ⟨_, _, rfl, rfl, ?_⟩
              refine ⟨?_, ?_, ?_⟩
              · intro j; first | rfl | (by_cases e : j = h; exact (by rw [e]; exact up_same); rw [up_slot e]; exact hx32_0 j e)
              · refine jvu72 ?_ (by omega) (by omega); exact hI32
              · refine Fr.up ?_ (by first | rfl | (unfold jcKeep; simp; try omega)); exact hF32
            · skip
              refine g_aload_n (M := mX11_keep) (pc := 44) dX11_keep_44 rfl (k := ?_)
              refine g_getr (M := mX11_keep) (pc := 45) (by rfl) fX11_4 kX11_23 dX11_keep_45 (by rfl) (kk := ?_)
              refine g_iload_n (M := mX11_keep) (pc := 48) dX11_keep_48 rfl (k := ?_)
              refine g_iload (M := mX11_keep) (pc := 49) dX11_keep_49 rfl (k := ?_)
              refine g_iast (M := mX11_keep) (pc := 51) (by rfl) (by omega) (by omega) (by omega) dX11_keep_51 (kk := ?_)
              refine g_aload_n (M := mX11_keep) (pc := 52) dX11_keep_52 rfl (k := ?_)
              refine g_iload_n (M := mX11_keep) (pc := 53) dX11_keep_53 rfl (k := ?_)
              refine g_iload_n (M := mX11_keep) (pc := 54) dX11_keep_54 rfl (k := ?_)
              refine g_iconst (M := mX11_keep) (pc := 55) dX11_keep_55 (k := ?_)
              refine g_cV3I (M := mX11_keep) (pc := 56) (c_X11_comesIn Γ t _ _ _ _ (by refine jvu72 ?_ (by omega) (by omega); exact hI32) (JS_fr hS (by refine Fr.up ?_ (by first | rfl | (unfold jNS; simp; try omega)); exact Fr.mono hF32 sb_jcKeep_jNS)) (by first | omega | (simp only [up_same, up_cell, up_slot, ne_eq, not_false_eq_true, Nat.reduceEqDiff, Int.reduceEq, reduceCtorEq, Nat.reduceAdd, Int.reduceAdd, Int.reduceSub]; omega)) (by first | omega | (simp only [up_same, up_cell, up_slot, ne_eq, not_false_eq_true, Nat.reduceEqDiff, Int.reduceEq, reduceCtorEq, Nat.reduceAdd, Int.reduceAdd, Int.reduceSub]; done) | (simp only [up_same, up_cell, up_slot, ne_eq, not_false_eq_true, Nat.reduceEqDiff, Int.reduceEq, reduceCtorEq, Nat.reduceAdd, Int.reduceAdd, Int.reduceSub]; omega)) (by first | omega | (simp only [up_same, up_cell, up_slot, ne_eq, not_false_eq_true, Nat.reduceEqDiff, Int.reduceEq, reduceCtorEq, Nat.reduceAdd, Int.reduceAdd, Int.reduceSub]; done) | (simp only [up_same, up_cell, up_slot, ne_eq, not_false_eq_true, Nat.reduceEqDiff, Int.reduceEq, reduceCtorEq, Nat.reduceAdd, Int.reduceAdd, Int.reduceSub]; omega))) qX11_comesIn vX11_comesIn sX11_comesIn kX11_343 dX11_keep_56 (kk := ?_)
              rintro r56 τ56 ⟨hi56, hm56, hI56, hG56⟩
              try simp only [up_same, up_cell, up_slot, ne_eq, not_false_eq_true, Nat.reduceEqDiff, Int.reduceEq, reduceCtorEq, Nat.reduceAdd, Int.reduceAdd, Int.reduceSub] at hi56 hm56
              have hF56 : Fr jcKeep σ τ56 := by refine Fr.tr ?_ (Fr.mono hG56 sb_jcC_jcKeep); refine Fr.up ?_ (by first | rfl | (unfold jcKeep; simp; try omega)); exact hF32
              refine g_if_eq (M := mX11_keep) (pc := 59) (tgt := 67) (by omega) dX11_keep_59 (k1 := fun h59 => ?_) (k2 := fun h59 => ?_)
              · skip
                refine g_iload (M := mX11_keep) (pc := 67) dX11_keep_67 rfl (k := ?_)
                refine g_istore_4 (M := mX11_keep) (pc := 69) dX11_keep_69 (k := ?_)
                refine g_iinc_5 (M := mX11_keep) (pc := 71) dX11_keep_71 (k := ?_)
                refine g_goto (M := mX11_keep) (pc := 74) (tgt := 32) dX11_keep_74 (k := ?_)
                refine ih32 _ _ _ ?_ ?_
                · omega
                · skip
                  refine ⟨?_, ?_, ?_, ?_, ?_⟩
                  · exact hI56
                  · exact hF56
                  · omega
                  · omega
                  · intro j hj; first | rfl | (rw [hG56 72 j rfl, up_slot hj]; exact hx32_0 j hj)
              · skip
                refine g_bipush (M := mX11_keep) (pc := 62) dX11_keep_62 (k := ?_)
                refine g_goto (M := mX11_keep) (pc := 64) (tgt := 69) dX11_keep_64 (k := ?_)
                refine g_istore_4 (M := mX11_keep) (pc := 69) dX11_keep_69 (k := ?_)
                refine g_iinc_5 (M := mX11_keep) (pc := 71) dX11_keep_71 (k := ?_)
                refine g_goto (M := mX11_keep) (pc := 74) (tgt := 32) dX11_keep_74 (k := ?_)
                refine ih32 _ _ _ ?_ ?_
                · omega
                · skip
                  refine ⟨?_, ?_, ?_, ?_, ?_⟩
                  · exact hI56
                  · exact hF56
                  · omega
                  · omega
                  · intro j hj; first | rfl | (rw [hG56 72 j rfl, up_slot hj]; exact hx32_0 j hj)
      refine loop32 _ _ _ _ (Nat.lt_succ_self _) ?_
      refine ⟨?_, ?_, ?_, ?_, ?_⟩
      · exact hI
      · exact (Fr.rf)
      · omega
      · omega
      · intro j hj; first | rfl | (rw [hG56 72 j rfl, up_slot hj]; exact hx32_0 j hj)
    · skip
      refine g_iconst (M := mX11_keep) (pc := 16) dX11_keep_16 (k := ?_)
      refine g_iret (M := mX11_keep) (pc := 17) rfl dX11_keep_17 rfl ⟨_, _, rfl, rfl, ?_⟩
      refine ⟨?_, ?_, ?_⟩
      · intro j; first | rfl | (by_cases e : j = h; exact (by rw [e]; exact up_same); rw [up_slot e]; exact hx32_0 j e)
      · exact hI
      · exact (Fr.rf)
set_option maxHeartbeats 4000000 in
set_option maxRecDepth 20000 in
theorem c_X11_pairsIn (Γ : KT) (t : Nat) (σ : Nat → Int → Int)  (hI : InvJ σ) (hS : JS σ) : Ct Γ mX11_pairsIn 7 (0, 0) [vR Γ 69] (113, ρT t, σ) (pI 113 (ρT t) (fun r σ' => (0 ≤ r ∧ r ≤ 24) ∧ (InvJ σ') ∧ (Fr jcC σ σ'))) := by
  refine Ct.of rfl (Nat.le_of_ble_eq_true rfl) ?_
  show G Γ mX11_pairsIn 7 (0, 0) _ (0, 0) 0 [some (vR Γ 69), none, none, none] [] (113, ρT t, σ)
  refine g_iconst (M := mX11_pairsIn) (pc := 0) dX11_pairsIn_0 (k := ?_)
  refine g_istore_1 (M := mX11_pairsIn) (pc := 1) dX11_pairsIn_1 (k := ?_)
  refine g_iconst (M := mX11_pairsIn) (pc := 2) dX11_pairsIn_2 (k := ?_)
  refine g_istore_2 (M := mX11_pairsIn) (pc := 3) dX11_pairsIn_3 (k := ?_)
  have loop4 : ∀ (N : Nat) (τ4 : Nat → Int → Int) (n : Int) (f : Int), ((5 - f).toNat) < N → ((InvJ τ4) ∧ (Fr jcC σ τ4) ∧ (0 ≤ n ∧ n ≤ 6 * f) ∧ (0 ≤ f ∧ f ≤ 4)) → G Γ mX11_pairsIn 7 (0, 0) (pI 113 (ρT t) (fun r σ' => (0 ≤ r ∧ r ≤ 24) ∧ (InvJ σ') ∧ (Fr jcC σ σ'))) (0, 0) 4 [some (vR Γ 69), some (vI n), some (vI f), none] [] (113, ρT t, τ4) := by
    intro N
    induction N with
    | zero => intro τ4 n f hmu4 hinv4; exact absurd hmu4 (Nat.not_lt_zero _)
    | succ N ih4 =>
      intro τ4 n f hmu4 hinv4
      obtain ⟨hI4, hF4, hb4_n, hb4_f⟩ := hinv4
      have he4_69_1 := hF4 69 1 rfl
      refine g_iload_n (M := mX11_pairsIn) (pc := 4) dX11_pairsIn_4 rfl (k := ?_)
      refine g_aload_n (M := mX11_pairsIn) (pc := 5) dX11_pairsIn_5 rfl (k := ?_)
      refine g_get (M := mX11_pairsIn) (pc := 6) (ji := 1) (by rfl) fX11_1 kX11_13 dX11_pairsIn_6 (kk := fun hr6 => ?_)
      have hb6 := jv69_1 hI4 1 (by omega) (by omega)
      refine g_icmp_ge (M := mX11_pairsIn) (pc := 9) (tgt := 52) (by omega) (by omega) dX11_pairsIn_9 (k1 := fun h9 => ?_) (k2 := fun h9 => ?_)
      · skip
        refine g_iload_n (M := mX11_pairsIn) (pc := 52) dX11_pairsIn_52 rfl (k := ?_)
        refine g_iret (M := mX11_pairsIn) (pc := 53) rfl dX11_pairsIn_53 rfl ⟨_, _, rfl, rfl, ?_⟩
        refine ⟨?_, ?_, ?_⟩
        · omega
        · exact hI4
        · exact hF4
      · skip
        refine g_iconst (M := mX11_pairsIn) (pc := 12) dX11_pairsIn_12 (k := ?_)
        refine g_istore_3 (M := mX11_pairsIn) (pc := 13) dX11_pairsIn_13 (k := ?_)
        have loop14 : ∀ (N : Nat) (τ14 : Nat → Int → Int) (n2 : Int) (h : Int), ((7 - h).toNat) < N → ((InvJ τ14) ∧ (Fr jcC σ τ14) ∧ (0 ≤ n2 ∧ n2 ≤ 6 * f + h) ∧ (0 ≤ h ∧ h ≤ 6)) → G Γ mX11_pairsIn 7 (0, 0) (pI 113 (ρT t) (fun r σ' => (0 ≤ r ∧ r ≤ 24) ∧ (InvJ σ') ∧ (Fr jcC σ σ'))) (0, 0) 14 [some (vR Γ 69), some (vI n2), some (vI f), some (vI h)] [] (113, ρT t, τ14) := by
          intro N
          induction N with
          | zero => intro τ14 n2 h hmu14 hinv14; exact absurd hmu14 (Nat.not_lt_zero _)
          | succ N ih14 =>
            intro τ14 n2 h hmu14 hinv14
            obtain ⟨hI14, hF14, hb14_n2, hb14_h⟩ := hinv14
            have he14_69_1 := hF14 69 1 rfl
            refine g_iload_n (M := mX11_pairsIn) (pc := 14) dX11_pairsIn_14 rfl (k := ?_)
            refine g_aload_n (M := mX11_pairsIn) (pc := 15) dX11_pairsIn_15 rfl (k := ?_)
            refine g_get (M := mX11_pairsIn) (pc := 16) (ji := 0) (by rfl) fX11_0 kX11_7 dX11_pairsIn_16 (kk := fun hr16 => ?_)
            have hb16 := jv69_0 hI14 0 (by omega) (by omega)
            refine g_icmp_ge (M := mX11_pairsIn) (pc := 19) (tgt := 46) (by omega) (by omega) dX11_pairsIn_19 (k1 := fun h19 => ?_) (k2 := fun h19 => ?_)
            · skip
              refine g_iinc_2 (M := mX11_pairsIn) (pc := 46) dX11_pairsIn_46 (k := ?_)
              refine g_goto (M := mX11_pairsIn) (pc := 49) (tgt := 4) dX11_pairsIn_49 (k := ?_)
              refine g_less (leL_s (leL_s (leL_s (leL_n leL_0)))) ?_
              refine ih4 _ _ _ ?_ ?_
              · omega
              · skip
                refine ⟨?_, ?_, ?_, ?_⟩
                · exact hI14
                · exact hF14
                · omega
                · omega
            · skip
              refine g_iload_n (M := mX11_pairsIn) (pc := 22) dX11_pairsIn_22 rfl (k := ?_)
              refine g_aload_n (M := mX11_pairsIn) (pc := 23) dX11_pairsIn_23 rfl (k := ?_)
              refine g_iload_n (M := mX11_pairsIn) (pc := 24) dX11_pairsIn_24 rfl (k := ?_)
              refine g_iload_n (M := mX11_pairsIn) (pc := 25) dX11_pairsIn_25 rfl (k := ?_)
              refine g_iconst (M := mX11_pairsIn) (pc := 26) dX11_pairsIn_26 (k := ?_)
              refine g_cV3I (M := mX11_pairsIn) (pc := 27) (c_X11_comesIn Γ t _ _ _ _ hI14 (JS_fr hS (by exact Fr.mono hF14 sb_jcC_jNS)) (by omega) (by omega) (by omega)) qX11_comesIn vX11_comesIn sX11_comesIn kX11_343 dX11_pairsIn_27 (kk := ?_)
              rintro r27 τ27 ⟨hi27, hm27, hI27, hG27⟩
              have hF27 : Fr jcC σ τ27 := by refine Fr.tr ?_ hG27; exact hF14
              refine g_if_eq (M := mX11_pairsIn) (pc := 30) (tgt := 37) (by omega) dX11_pairsIn_30 (k1 := fun h30 => ?_) (k2 := fun h30 => ?_)
              · skip
                refine g_iconst (M := mX11_pairsIn) (pc := 37) dX11_pairsIn_37 (k := ?_)
                refine g_iadd (M := mX11_pairsIn) (pc := 38) dX11_pairsIn_38 (k := ?_)
                refine g_istore_1 (M := mX11_pairsIn) (pc := 39) dX11_pairsIn_39 (k := ?_)
                refine g_iinc_3 (M := mX11_pairsIn) (pc := 40) dX11_pairsIn_40 (k := ?_)
                refine g_goto (M := mX11_pairsIn) (pc := 43) (tgt := 14) dX11_pairsIn_43 (k := ?_)
                refine ih14 _ _ _ ?_ ?_
                · omega
                · skip
                  refine ⟨?_, ?_, ?_, ?_⟩
                  · exact hI27
                  · exact hF27
                  · omega
                  · omega
              · skip
                refine g_iconst (M := mX11_pairsIn) (pc := 33) dX11_pairsIn_33 (k := ?_)
                refine g_goto (M := mX11_pairsIn) (pc := 34) (tgt := 38) dX11_pairsIn_34 (k := ?_)
                refine g_iadd (M := mX11_pairsIn) (pc := 38) dX11_pairsIn_38 (k := ?_)
                refine g_istore_1 (M := mX11_pairsIn) (pc := 39) dX11_pairsIn_39 (k := ?_)
                refine g_iinc_3 (M := mX11_pairsIn) (pc := 40) dX11_pairsIn_40 (k := ?_)
                refine g_goto (M := mX11_pairsIn) (pc := 43) (tgt := 14) dX11_pairsIn_43 (k := ?_)
                refine ih14 _ _ _ ?_ ?_
                · omega
                · skip
                  refine ⟨?_, ?_, ?_, ?_⟩
                  · exact hI27
                  · exact hF27
                  · omega
                  · omega
        refine loop14 _ _ _ _ (Nat.lt_succ_self _) ?_
        refine ⟨?_, ?_, ?_, ?_⟩
        · exact hI4
        · exact hF4
        · omega
        · omega
  refine loop4 _ _ _ _ (Nat.lt_succ_self _) ?_
  refine ⟨?_, ?_, ?_, ?_⟩
  · exact hI
  · exact (Fr.rf)
  · omega
  · omega
set_option maxHeartbeats 4000000 in
set_option maxRecDepth 20000 in
theorem c_X11_more (Γ : KT) (t : Nat) (σ : Nat → Int → Int) (n : Int) (w : Int) (hI : InvJ σ) (hS : JS σ) (hn : R32 n) (hw : R32 w) : Ct Γ mX11_more 8 (0, 0) [vR Γ 69, vI n, vI w] (113, ρT t, σ) (pI 113 (ρT t) (fun r σ' => (∀ j, σ' 72 j = σ 72 j) ∧ (InvJ σ') ∧ (Fr jcKeep σ σ'))) := by
  refine Ct.of rfl (Nat.le_of_ble_eq_true rfl) ?_
  show G Γ mX11_more 8 (0, 0) _ (0, 0) 0 [some (vR Γ 69), some (vI n), some (vI w), none, none, none, none, none] [] (113, ρT t, σ)
  refine g_aload_n (M := mX11_more) (pc := 0) dX11_more_0 rfl (k := ?_)
  refine g_iload_n (M := mX11_more) (pc := 1) dX11_more_1 rfl (k := ?_)
  refine g_iconst (M := mX11_more) (pc := 2) dX11_more_2 (k := ?_)
  refine g_iconst (M := mX11_more) (pc := 3) dX11_more_3 (k := ?_)
  refine g_cV3I (M := mX11_more) (pc := 4) (c_X11_in Γ t _ _ _ _ (by omega) (by omega) (by omega)) qX11_in vX11_in sX11_in kX11_224 dX11_more_4 (kk := ?_)
  rintro _ _ ⟨e1, e⟩; rw [e1, e]; clear e1 e
  refine g_if_neB (M := mX11_more) (pc := 7) (tgt := 12) dX11_more_7 (k1 := fun h7 => ?_) (k2 := fun h7 => ?_)
  · skip
    refine g_aload_n (M := mX11_more) (pc := 12) dX11_more_12 rfl (k := ?_)
    refine g_iload_n (M := mX11_more) (pc := 13) dX11_more_13 rfl (k := ?_)
    refine g_iconst (M := mX11_more) (pc := 14) dX11_more_14 (k := ?_)
    refine g_bipush (M := mX11_more) (pc := 15) dX11_more_15 (k := ?_)
    refine g_cV3I (M := mX11_more) (pc := 17) (c_X11_in Γ t _ _ _ _ (by omega) (by omega) (by omega)) qX11_in vX11_in sX11_in kX11_224 dX11_more_17 (kk := ?_)
    rintro _ _ ⟨e1, e⟩; rw [e1, e]; clear e1 e
    refine g_if_neB (M := mX11_more) (pc := 20) (tgt := 26) dX11_more_20 (k1 := fun h20 => ?_) (k2 := fun h20 => ?_)
    · skip
      refine g_bipush (M := mX11_more) (pc := 26) dX11_more_26 (k := ?_)
      refine g_istore_3 (M := mX11_more) (pc := 28) dX11_more_28 (k := ?_)
      refine g_iconst (M := mX11_more) (pc := 29) dX11_more_29 (k := ?_)
      refine g_istore_4 (M := mX11_more) (pc := 30) dX11_more_30 (k := ?_)
      refine g_iconst (M := mX11_more) (pc := 32) dX11_more_32 (k := ?_)
      refine g_istore_5 (M := mX11_more) (pc := 33) dX11_more_33 (k := ?_)
      have loop35 : ∀ (N : Nat) (τ35 : Nat → Int → Int) (fo : Int) (fe : Int) (q : Int), ((7 - q).toNat) < N → ((InvJ τ35) ∧ (Fr jcKeep σ τ35) ∧ (-5 ≤ fo ∧ fo ≤ 5) ∧ (0 ≤ fe ∧ fe ≤ 24) ∧ (0 ≤ q ∧ q ≤ 6) ∧ (∀ j, τ35 72 j = σ 72 j)) → G Γ mX11_more 8 (0, 0) (pI 113 (ρT t) (fun r σ' => (∀ j, σ' 72 j = σ 72 j) ∧ (InvJ σ') ∧ (Fr jcKeep σ σ'))) (0, 0) 35 [some (vR Γ 69), some (vI n), some (vI w), some (vI fo), some (vI fe), some (vI q), none, none] [] (113, ρT t, τ35) := by
        intro N
        induction N with
        | zero => intro τ35 fo fe q hmu35 hinv35; exact absurd hmu35 (Nat.not_lt_zero _)
        | succ N ih35 =>
          intro τ35 fo fe q hmu35 hinv35
          obtain ⟨hI35, hF35, hb35_fo, hb35_fe, hb35_q, hx35_0⟩ := hinv35
          refine g_iload (M := mX11_more) (pc := 35) dX11_more_35 rfl (k := ?_)
          refine g_aload_n (M := mX11_more) (pc := 37) dX11_more_37 rfl (k := ?_)
          refine g_get (M := mX11_more) (pc := 38) (ji := 0) (by rfl) fX11_0 kX11_7 dX11_more_38 (kk := fun hr38 => ?_)
          have hb38 := jv69_0 hI35 0 (by omega) (by omega)
          refine g_icmp_ge (M := mX11_more) (pc := 41) (tgt := 120) (by omega) (by omega) dX11_more_41 (k1 := fun h41 => ?_) (k2 := fun h41 => ?_)
          · skip
            refine g_iload_n (M := mX11_more) (pc := 120) dX11_more_120 rfl (k := ?_)
            refine g_if_lt (M := mX11_more) (pc := 121) (tgt := 128) (by omega) dX11_more_121 (k1 := fun h121 => ?_) (k2 := fun h121 => ?_)
            · skip
              refine g_iload_n (M := mX11_more) (pc := 128) dX11_more_128 rfl (k := ?_)
              refine g_goto (M := mX11_more) (pc := 129) (tgt := 134) dX11_more_129 (k := ?_)
              refine g_iret (M := mX11_more) (pc := 134) rfl dX11_more_134 rfl ⟨_, _, rfl, rfl, ?_⟩
              refine ⟨?_, ?_, ?_⟩
              · intro j; first | rfl | exact hx35_0 j
              · exact hI35
              · exact hF35
            · skip
              refine g_iload_n (M := mX11_more) (pc := 124) dX11_more_124 rfl (k := ?_)
              refine g_if_ne (M := mX11_more) (pc := 125) (tgt := 132) (by omega) dX11_more_125 (k1 := fun h125 => ?_) (k2 := fun h125 => ?_)
              · skip
                refine g_iload (M := mX11_more) (pc := 132) dX11_more_132 rfl (k := ?_)
                refine g_iret (M := mX11_more) (pc := 134) rfl dX11_more_134 rfl ⟨_, _, rfl, rfl, ?_⟩
                refine ⟨?_, ?_, ?_⟩
                · intro j; first | rfl | exact hx35_0 j
                · exact hI35
                · exact hF35
              · skip
                refine g_iload_n (M := mX11_more) (pc := 128) dX11_more_128 rfl (k := ?_)
                refine g_goto (M := mX11_more) (pc := 129) (tgt := 134) dX11_more_129 (k := ?_)
                refine g_iret (M := mX11_more) (pc := 134) rfl dX11_more_134 rfl ⟨_, _, rfl, rfl, ?_⟩
                refine ⟨?_, ?_, ?_⟩
                · intro j; first | rfl | exact hx35_0 j
                · exact hI35
                · exact hF35
          · skip
            refine g_aload_n (M := mX11_more) (pc := 44) dX11_more_44 rfl (k := ?_)
            refine g_getr (M := mX11_more) (pc := 45) (by rfl) fX11_4 kX11_23 dX11_more_45 (by rfl) (kk := ?_)
            refine g_iload (M := mX11_more) (pc := 48) dX11_more_48 rfl (k := ?_)
            refine g_iald (M := mX11_more) (pc := 50) (by rfl) (by omega) (by omega) dX11_more_50 (kk := fun hr50 => ?_)
            have hb50 := jv72_0 hI35 q (by omega) (by omega)
            refine g_istore_6 (M := mX11_more) (pc := 51) dX11_more_51 (k := ?_)
            refine g_aload_n (M := mX11_more) (pc := 53) dX11_more_53 rfl (k := ?_)
            refine g_getr (M := mX11_more) (pc := 54) (by rfl) fX11_4 kX11_23 dX11_more_54 (by rfl) (kk := ?_)
            refine g_iload (M := mX11_more) (pc := 57) dX11_more_57 rfl (k := ?_)
            refine g_iload (M := mX11_more) (pc := 59) dX11_more_59 rfl (k := ?_)
            refine g_iload_n (M := mX11_more) (pc := 61) dX11_more_61 rfl (k := ?_)
            refine g_iadd (M := mX11_more) (pc := 62) dX11_more_62 (k := ?_)
            refine g_bipush (M := mX11_more) (pc := 63) dX11_more_63 (k := ?_)
            refine g_icmp_le (M := mX11_more) (pc := 65) (tgt := 73) (by omega) (by omega) dX11_more_65 (k1 := fun h65 => ?_) (k2 := fun h65 => ?_)
            · skip
              refine g_iload (M := mX11_more) (pc := 73) dX11_more_73 rfl (k := ?_)
              refine g_iload_n (M := mX11_more) (pc := 75) dX11_more_75 rfl (k := ?_)
              refine g_iadd (M := mX11_more) (pc := 76) dX11_more_76 (k := ?_)
              refine g_iast (M := mX11_more) (pc := 77) (by rfl) (by omega) (by omega) (by omega) dX11_more_77 (kk := ?_)
              refine g_aload_n (M := mX11_more) (pc := 78) dX11_more_78 rfl (k := ?_)
              refine g_cV0I (M := mX11_more) (pc := 79) (c_X11_pairsIn Γ t _ (by refine jvu72 ?_ (by omega) (by omega); exact hI35) (JS_fr hS (by refine Fr.up ?_ (by first | rfl | (unfold jNS; simp; try omega)); exact Fr.mono hF35 sb_jcKeep_jNS))) qX11_pairsIn vX11_pairsIn sX11_pairsIn kX11_349 dX11_more_79 (kk := ?_)
              rintro r79 τ79 ⟨hi79, hI79, hG79⟩
              try simp only [up_same, up_cell, up_slot, ne_eq, not_false_eq_true, Nat.reduceEqDiff, Int.reduceEq, reduceCtorEq, Nat.reduceAdd, Int.reduceAdd, Int.reduceSub] at hi79
              have hF79 : Fr jcKeep σ τ79 := by refine Fr.tr ?_ (Fr.mono hG79 sb_jcC_jcKeep); refine Fr.up ?_ (by first | rfl | (unfold jcKeep; simp; try omega)); exact hF35
              refine g_istore_7 (M := mX11_more) (pc := 82) dX11_more_82 (k := ?_)
              refine g_aload_n (M := mX11_more) (pc := 84) dX11_more_84 rfl (k := ?_)
              refine g_getr (M := mX11_more) (pc := 85) (by rfl) fX11_4 kX11_23 dX11_more_85 (by rfl) (kk := ?_)
              refine g_iload (M := mX11_more) (pc := 88) dX11_more_88 rfl (k := ?_)
              refine g_iload (M := mX11_more) (pc := 90) dX11_more_90 rfl (k := ?_)
              refine g_iast (M := mX11_more) (pc := 92) (by rfl) (by omega) (by omega) (by omega) dX11_more_92 (kk := ?_)
              refine g_iload_n (M := mX11_more) (pc := 93) dX11_more_93 rfl (k := ?_)
              refine g_if_lt (M := mX11_more) (pc := 94) (tgt := 107) (by omega) dX11_more_94 (k1 := fun h94 => ?_) (k2 := fun h94 => ?_)
              · skip
                refine g_iload (M := mX11_more) (pc := 107) dX11_more_107 rfl (k := ?_)
                refine g_istore_3 (M := mX11_more) (pc := 109) dX11_more_109 (k := ?_)
                refine g_iload (M := mX11_more) (pc := 110) dX11_more_110 rfl (k := ?_)
                refine g_istore_4 (M := mX11_more) (pc := 112) dX11_more_112 (k := ?_)
                refine g_iinc_5 (M := mX11_more) (pc := 114) dX11_more_114 (k := ?_)
                refine g_goto (M := mX11_more) (pc := 117) (tgt := 35) dX11_more_117 (k := ?_)
                refine g_less (leL_s (leL_s (leL_s (leL_s (leL_s (leL_s (leL_n (leL_n leL_0)))))))) ?_
                refine ih35 _ _ _ _ ?_ ?_
                · omega
                · skip
                  refine ⟨?_, ?_, ?_, ?_, ?_, ?_⟩
                  · refine jvu72 ?_ (by omega) (by omega); exact hI79
                  · refine Fr.up ?_ (by first | rfl | (unfold jcKeep; simp; try omega)); exact hF79
                  · omega
                  · omega
                  · omega
                  · intro j; first | rfl | (by_cases e : j = q; (rw [e, up_same]; exact hx35_0 q); rw [up_slot e, hG79 72 j rfl, up_slot e]; exact hx35_0 j)
              · skip
                refine g_iload (M := mX11_more) (pc := 97) dX11_more_97 rfl (k := ?_)
                refine g_iload (M := mX11_more) (pc := 99) dX11_more_99 rfl (k := ?_)
                refine g_icmp_lt (M := mX11_more) (pc := 101) (tgt := 107) (by omega) (by omega) dX11_more_101 (k1 := fun h101 => ?_) (k2 := fun h101 => ?_)
                · skip
                  refine g_iload (M := mX11_more) (pc := 107) dX11_more_107 rfl (k := ?_)
                  refine g_istore_3 (M := mX11_more) (pc := 109) dX11_more_109 (k := ?_)
                  refine g_iload (M := mX11_more) (pc := 110) dX11_more_110 rfl (k := ?_)
                  refine g_istore_4 (M := mX11_more) (pc := 112) dX11_more_112 (k := ?_)
                  refine g_iinc_5 (M := mX11_more) (pc := 114) dX11_more_114 (k := ?_)
                  refine g_goto (M := mX11_more) (pc := 117) (tgt := 35) dX11_more_117 (k := ?_)
                  refine g_less (leL_s (leL_s (leL_s (leL_s (leL_s (leL_s (leL_n (leL_n leL_0)))))))) ?_
                  refine ih35 _ _ _ _ ?_ ?_
                  · omega
                  · skip
                    refine ⟨?_, ?_, ?_, ?_, ?_, ?_⟩
                    · refine jvu72 ?_ (by omega) (by omega); exact hI79
                    · refine Fr.up ?_ (by first | rfl | (unfold jcKeep; simp; try omega)); exact hF79
                    · omega
                    · omega
                    · omega
                    · intro j; first | rfl | (by_cases e : j = q; (rw [e, up_same]; exact hx35_0 q); rw [up_slot e, hG79 72 j rfl, up_slot e]; exact hx35_0 j)
                · skip
                  refine g_goto (M := mX11_more) (pc := 104) (tgt := 114) dX11_more_104 (k := ?_)
                  refine g_iinc_5 (M := mX11_more) (pc := 114) dX11_more_114 (k := ?_)
                  refine g_goto (M := mX11_more) (pc := 117) (tgt := 35) dX11_more_117 (k := ?_)
                  refine g_less (leL_s (leL_s (leL_s (leL_s (leL_s (leL_s (leL_n (leL_n leL_0)))))))) ?_
                  refine ih35 _ _ _ _ ?_ ?_
                  · omega
                  · skip
                    refine ⟨?_, ?_, ?_, ?_, ?_, ?_⟩
                    · refine jvu72 ?_ (by omega) (by omega); exact hI79
                    · refine Fr.up ?_ (by first | rfl | (unfold jcKeep; simp; try omega)); exact hF79
                    · omega
                    · omega
                    · omega
                    · intro j; first | rfl | (by_cases e : j = q; (rw [e, up_same]; exact hx35_0 q); rw [up_slot e, hG79 72 j rfl, up_slot e]; exact hx35_0 j)
            · skip
              refine g_bipush (M := mX11_more) (pc := 68) dX11_more_68 (k := ?_)
              refine g_goto (M := mX11_more) (pc := 70) (tgt := 77) dX11_more_70 (k := ?_)
              refine g_iast (M := mX11_more) (pc := 77) (by rfl) (by omega) (by omega) (by omega) dX11_more_77 (kk := ?_)
              refine g_aload_n (M := mX11_more) (pc := 78) dX11_more_78 rfl (k := ?_)
              refine g_cV0I (M := mX11_more) (pc := 79) (c_X11_pairsIn Γ t _ (by refine jvu72 ?_ (by omega) (by omega); exact hI35) (JS_fr hS (by refine Fr.up ?_ (by first | rfl | (unfold jNS; simp; try omega)); exact Fr.mono hF35 sb_jcKeep_jNS))) qX11_pairsIn vX11_pairsIn sX11_pairsIn kX11_349 dX11_more_79 (kk := ?_)
              rintro r79 τ79 ⟨hi79, hI79, hG79⟩
              try simp only [up_same, up_cell, up_slot, ne_eq, not_false_eq_true, Nat.reduceEqDiff, Int.reduceEq, reduceCtorEq, Nat.reduceAdd, Int.reduceAdd, Int.reduceSub] at hi79
              have hF79 : Fr jcKeep σ τ79 := by refine Fr.tr ?_ (Fr.mono hG79 sb_jcC_jcKeep); refine Fr.up ?_ (by first | rfl | (unfold jcKeep; simp; try omega)); exact hF35
              refine g_istore_7 (M := mX11_more) (pc := 82) dX11_more_82 (k := ?_)
              refine g_aload_n (M := mX11_more) (pc := 84) dX11_more_84 rfl (k := ?_)
              refine g_getr (M := mX11_more) (pc := 85) (by rfl) fX11_4 kX11_23 dX11_more_85 (by rfl) (kk := ?_)
              refine g_iload (M := mX11_more) (pc := 88) dX11_more_88 rfl (k := ?_)
              refine g_iload (M := mX11_more) (pc := 90) dX11_more_90 rfl (k := ?_)
              refine g_iast (M := mX11_more) (pc := 92) (by rfl) (by omega) (by omega) (by omega) dX11_more_92 (kk := ?_)
              refine g_iload_n (M := mX11_more) (pc := 93) dX11_more_93 rfl (k := ?_)
              refine g_if_lt (M := mX11_more) (pc := 94) (tgt := 107) (by omega) dX11_more_94 (k1 := fun h94 => ?_) (k2 := fun h94 => ?_)
              · skip
                refine g_iload (M := mX11_more) (pc := 107) dX11_more_107 rfl (k := ?_)
                refine g_istore_3 (M := mX11_more) (pc := 109) dX11_more_109 (k := ?_)
                refine g_iload (M := mX11_more) (pc := 110) dX11_more_110 rfl (k := ?_)
                refine g_istore_4 (M := mX11_more) (pc := 112) dX11_more_112 (k := ?_)
                refine g_iinc_5 (M := mX11_more) (pc := 114) dX11_more_114 (k := ?_)
                refine g_goto (M := mX11_more) (pc := 117) (tgt := 35) dX11_more_117 (k := ?_)
                refine g_less (leL_s (leL_s (leL_s (leL_s (leL_s (leL_s (leL_n (leL_n leL_0)))))))) ?_
                refine ih35 _ _ _ _ ?_ ?_
                · omega
                · skip
                  refine ⟨?_, ?_, ?_, ?_, ?_, ?_⟩
                  · refine jvu72 ?_ (by omega) (by omega); exact hI79
                  · refine Fr.up ?_ (by first | rfl | (unfold jcKeep; simp; try omega)); exact hF79
                  · omega
                  · omega
                  · omega
                  · intro j; first | rfl | (by_cases e : j = q; (rw [e, up_same]; exact hx35_0 q); rw [up_slot e, hG79 72 j rfl, up_slot e]; exact hx35_0 j)
              · skip
                refine g_iload (M := mX11_more) (pc := 97) dX11_more_97 rfl (k := ?_)
                refine g_iload (M := mX11_more) (pc := 99) dX11_more_99 rfl (k := ?_)
                refine g_icmp_lt (M := mX11_more) (pc := 101) (tgt := 107) (by omega) (by omega) dX11_more_101 (k1 := fun h101 => ?_) (k2 := fun h101 => ?_)
                · skip
                  refine g_iload (M := mX11_more) (pc := 107) dX11_more_107 rfl (k := ?_)
                  refine g_istore_3 (M := mX11_more) (pc := 109) dX11_more_109 (k := ?_)
                  refine g_iload (M := mX11_more) (pc := 110) dX11_more_110 rfl (k := ?_)
                  refine g_istore_4 (M := mX11_more) (pc := 112) dX11_more_112 (k := ?_)
                  refine g_iinc_5 (M := mX11_more) (pc := 114) dX11_more_114 (k := ?_)
                  refine g_goto (M := mX11_more) (pc := 117) (tgt := 35) dX11_more_117 (k := ?_)
                  refine g_less (leL_s (leL_s (leL_s (leL_s (leL_s (leL_s (leL_n (leL_n leL_0)))))))) ?_
                  refine ih35 _ _ _ _ ?_ ?_
                  · omega
                  · skip
                    refine ⟨?_, ?_, ?_, ?_, ?_, ?_⟩
                    · refine jvu72 ?_ (by omega) (by omega); exact hI79
                    · refine Fr.up ?_ (by first | rfl | (unfold jcKeep; simp; try omega)); exact hF79
                    · omega
                    · omega
                    · omega
                    · intro j; first | rfl | (by_cases e : j = q; (rw [e, up_same]; exact hx35_0 q); rw [up_slot e, hG79 72 j rfl, up_slot e]; exact hx35_0 j)
                · skip
                  refine g_goto (M := mX11_more) (pc := 104) (tgt := 114) dX11_more_104 (k := ?_)
                  refine g_iinc_5 (M := mX11_more) (pc := 114) dX11_more_114 (k := ?_)
                  refine g_goto (M := mX11_more) (pc := 117) (tgt := 35) dX11_more_117 (k := ?_)
                  refine g_less (leL_s (leL_s (leL_s (leL_s (leL_s (leL_s (leL_n (leL_n leL_0)))))))) ?_
                  refine ih35 _ _ _ _ ?_ ?_
                  · omega
                  · skip
                    refine ⟨?_, ?_, ?_, ?_, ?_, ?_⟩
                    · refine jvu72 ?_ (by omega) (by omega); exact hI79
                    · refine Fr.up ?_ (by first | rfl | (unfold jcKeep; simp; try omega)); exact hF79
                    · omega
                    · omega
                    · omega
                    · intro j; first | rfl | (by_cases e : j = q; (rw [e, up_same]; exact hx35_0 q); rw [up_slot e, hG79 72 j rfl, up_slot e]; exact hx35_0 j)
      refine loop35 _ _ _ _ _ (Nat.lt_succ_self _) ?_
      refine ⟨?_, ?_, ?_, ?_, ?_, ?_⟩
      · exact hI
      · exact (Fr.rf)
      · omega
      · omega
      · omega
      · intro j; first | rfl | (by_cases e : j = q; (rw [e, up_same]; exact hx35_0 q); rw [up_slot e, hG79 72 j rfl, up_slot e]; exact hx35_0 j)
    · skip
      refine g_bipush (M := mX11_more) (pc := 23) dX11_more_23 (k := ?_)
      refine g_iret (M := mX11_more) (pc := 25) rfl dX11_more_25 rfl ⟨_, _, rfl, rfl, ?_⟩
      refine ⟨?_, ?_, ?_⟩
      · intro j; first | rfl | exact hx35_0 j
      · exact hI
      · exact (Fr.rf)
  · skip
    refine g_iconst (M := mX11_more) (pc := 10) dX11_more_10 (k := ?_)
    refine g_iret (M := mX11_more) (pc := 11) rfl dX11_more_11 rfl ⟨_, _, rfl, rfl, ?_⟩
    refine ⟨?_, ?_, ?_⟩
    · intro j; first | rfl | exact hx35_0 j
    · exact hI
    · exact (Fr.rf)
set_option maxHeartbeats 4000000 in
set_option maxRecDepth 20000 in
theorem c_X11_share (Γ : KT) (t : Nat) (σ : Nat → Int → Int) (a : Int) (b : Int) (h : Int) (w : Int) (hI : InvJ σ) (hS : JS σ) (ha : R32 a) (hb : R32 b) (hh : R32 h) (hw : R32 w) : Ct Γ mX11_share 7 (0, 0) [vR Γ 69, vI a, vI b, vI h, vI w] (113, ρT t, σ) (pI 113 (ρT t) (fun r σ' => (InvJ σ') ∧ (Fr scJ σ σ'))) := by
  refine Ct.of rfl (Nat.le_of_ble_eq_true rfl) ?_
  show G Γ mX11_share 7 (0, 0) _ (0, 0) 0 [some (vR Γ 69), some (vI a), some (vI b), some (vI h), some (vI w), none, none, none, none] [] (113, ρT t, σ)
  refine g_aload_n (M := mX11_share) (pc := 0) dX11_share_0 rfl (k := ?_)
  refine g_iload_n (M := mX11_share) (pc := 1) dX11_share_1 rfl (k := ?_)
  refine g_cV1I (M := mX11_share) (pc := 2) (c_X11_isFolk Γ t _ _ hI (by omega)) qX11_isFolk vX11_isFolk sX11_isFolk kX11_236 dX11_share_2 (kk := ?_)
  rintro _ _ ⟨e1, e⟩; rw [e1, e]; clear e1 e
  have hb2_69 := jv69_1 hI 1 (by omega) (by omega)
  refine g_if_eqB (M := mX11_share) (pc := 5) (tgt := 35) dX11_share_5 (k1 := fun h5 => ?_) (k2 := fun h5 => ?_)
  · skip
    refine g_iconst (M := mX11_share) (pc := 35) dX11_share_35 (k := ?_)
    refine g_iret (M := mX11_share) (pc := 36) rfl dX11_share_36 rfl ⟨_, _, rfl, rfl, ?_⟩
    refine ⟨?_, ?_⟩
    · exact hI
    · exact (Fr.rf)
  · skip
    refine g_aload_n (M := mX11_share) (pc := 8) dX11_share_8 rfl (k := ?_)
    refine g_iload_n (M := mX11_share) (pc := 9) dX11_share_9 rfl (k := ?_)
    refine g_cV1I (M := mX11_share) (pc := 10) (c_X11_isFolk Γ t _ _ hI (by omega)) qX11_isFolk vX11_isFolk sX11_isFolk kX11_236 dX11_share_10 (kk := ?_)
    rintro _ _ ⟨e1, e⟩; rw [e1, e]; clear e1 e
    refine g_if_eqB (M := mX11_share) (pc := 13) (tgt := 35) dX11_share_13 (k1 := fun h13 => ?_) (k2 := fun h13 => ?_)
    · skip
      refine g_iconst (M := mX11_share) (pc := 35) dX11_share_35 (k := ?_)
      refine g_iret (M := mX11_share) (pc := 36) rfl dX11_share_36 rfl ⟨_, _, rfl, rfl, ?_⟩
      refine ⟨?_, ?_⟩
      · exact hI
      · exact (Fr.rf)
    · skip
      refine g_aload_n (M := mX11_share) (pc := 16) dX11_share_16 rfl (k := ?_)
      refine g_iload_n (M := mX11_share) (pc := 17) dX11_share_17 rfl (k := ?_)
      refine g_cV1I (M := mX11_share) (pc := 18) (c_X11_isHouse Γ t _ _ hI (by omega)) qX11_isHouse vX11_isHouse sX11_isHouse kX11_232 dX11_share_18 (kk := ?_)
      rintro _ _ ⟨e1, e⟩; rw [e1, e]; clear e1 e
      have hb18_69 := jv69_0 hI 0 (by omega) (by omega)
      refine g_if_eqB (M := mX11_share) (pc := 21) (tgt := 35) dX11_share_21 (k1 := fun h21 => ?_) (k2 := fun h21 => ?_)
      · skip
        refine g_iconst (M := mX11_share) (pc := 35) dX11_share_35 (k := ?_)
        refine g_iret (M := mX11_share) (pc := 36) rfl dX11_share_36 rfl ⟨_, _, rfl, rfl, ?_⟩
        refine ⟨?_, ?_⟩
        · exact hI
        · exact (Fr.rf)
      · skip
        refine g_aload_n (M := mX11_share) (pc := 24) dX11_share_24 rfl (k := ?_)
        refine g_iload (M := mX11_share) (pc := 25) dX11_share_25 rfl (k := ?_)
        refine g_iconst (M := mX11_share) (pc := 27) dX11_share_27 (k := ?_)
        refine g_iconst (M := mX11_share) (pc := 28) dX11_share_28 (k := ?_)
        refine g_cV3I (M := mX11_share) (pc := 29) (c_X11_in Γ t _ _ _ _ (by omega) (by omega) (by omega)) qX11_in vX11_in sX11_in kX11_224 dX11_share_29 (kk := ?_)
        rintro _ _ ⟨e1, e⟩; rw [e1, e]; clear e1 e
        refine g_if_neB (M := mX11_share) (pc := 32) (tgt := 37) dX11_share_32 (k1 := fun h32 => ?_) (k2 := fun h32 => ?_)
        · skip
          refine g_iload_n (M := mX11_share) (pc := 37) dX11_share_37 rfl (k := ?_)
          refine g_iload_n (M := mX11_share) (pc := 38) dX11_share_38 rfl (k := ?_)
          refine g_icmp_ne (M := mX11_share) (pc := 39) (tgt := 45) (by omega) (by omega) dX11_share_39 (k1 := fun h39 => ?_) (k2 := fun h39 => ?_)
          · skip
            refine g_aload_n (M := mX11_share) (pc := 45) dX11_share_45 rfl (k := ?_)
            refine g_iload_n (M := mX11_share) (pc := 46) dX11_share_46 rfl (k := ?_)
            refine g_iload_n (M := mX11_share) (pc := 47) dX11_share_47 rfl (k := ?_)
            refine g_cV2I (M := mX11_share) (pc := 48) (c_X11_walksTo Γ t _ _ _ hI hS (by omega) (by omega)) qX11_walksTo vX11_walksTo sX11_walksTo kX11_352 dX11_share_48 (kk := ?_)
            rintro r48 τ48 ⟨hi48, hI48, hG48⟩
            have hk48_69_1 := hG48 69 1 rfl
            have hF48 : Fr scJ σ τ48 := by refine Fr.tr ?_ (Fr.mono hG48 sb_jcH_scJ); exact (Fr.rf)
            refine g_istore_5 (M := mX11_share) (pc := 51) dX11_share_51 (k := ?_)
            refine g_aload_n (M := mX11_share) (pc := 53) dX11_share_53 rfl (k := ?_)
            refine g_iload_n (M := mX11_share) (pc := 54) dX11_share_54 rfl (k := ?_)
            refine g_iload_n (M := mX11_share) (pc := 55) dX11_share_55 rfl (k := ?_)
            refine g_cV2I (M := mX11_share) (pc := 56) (c_X11_walksTo Γ t _ _ _ hI48 (JS_fr hS (by exact Fr.mono hF48 sb_scJ_jNS)) (by omega) (by omega)) qX11_walksTo vX11_walksTo sX11_walksTo kX11_352 dX11_share_56 (kk := ?_)
            rintro r56 τ56 ⟨hi56, hI56, hG56⟩
            have hk56_69_1 := hG56 69 1 rfl
            have hF56 : Fr scJ σ τ56 := by refine Fr.tr ?_ (Fr.mono hG56 sb_jcH_scJ); exact hF48
            refine g_istore_6 (M := mX11_share) (pc := 59) dX11_share_59 (k := ?_)
            refine g_iload (M := mX11_share) (pc := 61) dX11_share_61 rfl (k := ?_)
            refine g_iload (M := mX11_share) (pc := 63) dX11_share_63 rfl (k := ?_)
            refine g_icmp_le (M := mX11_share) (pc := 65) (tgt := 73) (by omega) (by omega) dX11_share_65 (k1 := fun h65 => ?_) (k2 := fun h65 => ?_)
            · skip
              refine g_iload (M := mX11_share) (pc := 73) dX11_share_73 rfl (k := ?_)
              refine g_aload_n (M := mX11_share) (pc := 75) dX11_share_75 rfl (k := ?_)
              refine g_aload_n (M := mX11_share) (pc := 76) dX11_share_76 rfl (k := ?_)
              refine g_iload_n (M := mX11_share) (pc := 77) dX11_share_77 rfl (k := ?_)
              refine g_iload_n (M := mX11_share) (pc := 78) dX11_share_78 rfl (k := ?_)
              refine g_aload_n (M := mX11_share) (pc := 79) dX11_share_79 rfl (k := ?_)
              refine g_getr (M := mX11_share) (pc := 80) (by rfl) fX11_8 kX11_35 dX11_share_80 (by rfl) (kk := ?_)
              refine g_iload_n (M := mX11_share) (pc := 83) dX11_share_83 rfl (k := ?_)
              refine g_iald (M := mX11_share) (pc := 84) (by rfl) (by omega) (by omega) dX11_share_84 (kk := fun hr84 => ?_)
              have hb84 := jv76_0 hI56 a (by omega) (by omega)
              refine g_cV3I (M := mX11_share) (pc := 85) (c_X11_slowOf Γ t _ _ _ _ hI56 (JS_fr hS (by exact Fr.mono hF56 sb_scJ_jNS)) (by omega) (by omega) (by omega)) qX11_slowOf vX11_slowOf sX11_slowOf kX11_304 dX11_share_85 (kk := ?_)
              rintro r85 τ85 ⟨hi85, hI85, hG85⟩
              have hk85_69_1 := hG85 69 1 rfl
              have hF85 : Fr scJ σ τ85 := by refine Fr.tr ?_ (Fr.mono hG85 sb_jcH_scJ); exact hF56
              refine g_aload_n (M := mX11_share) (pc := 88) dX11_share_88 rfl (k := ?_)
              refine g_getr (M := mX11_share) (pc := 89) (by rfl) fX11_4 kX11_23 dX11_share_89 (by rfl) (kk := ?_)
              refine g_iload_n (M := mX11_share) (pc := 92) dX11_share_92 rfl (k := ?_)
              refine g_iald (M := mX11_share) (pc := 93) (by rfl) (by omega) (by omega) dX11_share_93 (kk := fun hr93 => ?_)
              have hb93 := jv72_0 hI85 h (by omega) (by omega)
              refine g_imul (M := mX11_share) (pc := 94) dX11_share_94 (k := ?_)
              have hz94 := mulP (a := r85) (b := (τ85 72 h)) (A := 990) (C := 99) (by omega) (by omega)
              refine g_aload_n (M := mX11_share) (pc := 95) dX11_share_95 rfl (k := ?_)
              refine g_getr (M := mX11_share) (pc := 96) (by rfl) fX11_9 kX11_38 dX11_share_96 (by rfl) (kk := ?_)
              refine g_iload_n (M := mX11_share) (pc := 99) dX11_share_99 rfl (k := ?_)
              refine g_iald (M := mX11_share) (pc := 100) (by rfl) (by omega) (by omega) dX11_share_100 (kk := fun hr100 => ?_)
              have hb100 := jv77_0 hI85 a (by omega) (by omega)
              refine g_aload_n (M := mX11_share) (pc := 101) dX11_share_101 rfl (k := ?_)
              refine g_getr (M := mX11_share) (pc := 102) (by rfl) fX11_9 kX11_38 dX11_share_102 (by rfl) (kk := ?_)
              refine g_iload_n (M := mX11_share) (pc := 105) dX11_share_105 rfl (k := ?_)
              refine g_iald (M := mX11_share) (pc := 106) (by rfl) (by omega) (by omega) dX11_share_106 (kk := fun hr106 => ?_)
              have hb106 := jv77_0 hI85 b (by omega) (by omega)
              refine g_iadd (M := mX11_share) (pc := 107) dX11_share_107 (k := ?_)
              have hqa := JS_q (JS_fr hS (Fr.mono hF85 sb_scJ_jNS)) (f := a) (by omega) (by omega)
              have hqb := JS_q (JS_fr hS (Fr.mono hF85 sb_scJ_jNS)) (f := b) (by omega) (by omega)
              refine g_cV2I (M := mX11_share) (pc := 108) (c_X11_upBy Γ t _ _ _ (by omega) (by omega)) qX11_upBy vX11_upBy sX11_upBy kX11_327 dX11_share_108 (kk := ?_)
              rintro r108 _ ⟨hd108, e⟩; rw [e]; clear e
              refine g_iadd (M := mX11_share) (pc := 111) dX11_share_111 (k := ?_)
              refine g_istore_7 (M := mX11_share) (pc := 112) dX11_share_112 (k := ?_)
              refine g_iload (M := mX11_share) (pc := 114) dX11_share_114 rfl (k := ?_)
              refine g_if_ne (M := mX11_share) (pc := 116) (tgt := 122) (by omega) dX11_share_116 (k1 := fun h116 => ?_) (k2 := fun h116 => ?_)
              · skip
                refine g_aload_n (M := mX11_share) (pc := 122) dX11_share_122 rfl (k := ?_)
                refine g_iload_n (M := mX11_share) (pc := 123) dX11_share_123 rfl (k := ?_)
                refine g_iload_n (M := mX11_share) (pc := 124) dX11_share_124 rfl (k := ?_)
                refine g_iload (M := mX11_share) (pc := 125) dX11_share_125 rfl (k := ?_)
                refine g_cV3I (M := mX11_share) (pc := 127) (c_X11_isLetIn Γ t _ _ _ _ hI85 (by omega) (by omega) (by omega)) qX11_isLetIn vX11_isLetIn sX11_isLetIn kX11_355 dX11_share_127 (kk := ?_)
                rintro r127 τ127 ⟨hi127, hI127, hG127⟩
                have hF127 : Fr scJ σ τ127 := by refine Fr.tr ?_ (Fr.mono hG127 sb_jcC_scJ); exact hF85
                refine g_if_eq (M := mX11_share) (pc := 130) (tgt := 137) (by omega) dX11_share_130 (k1 := fun h130 => ?_) (k2 := fun h130 => ?_)
                · skip
                  refine g_iconst (M := mX11_share) (pc := 137) dX11_share_137 (k := ?_)
                  refine g_istore_8 (M := mX11_share) (pc := 138) dX11_share_138 (k := ?_)
                  refine g_aload_n (M := mX11_share) (pc := 140) dX11_share_140 rfl (k := ?_)
                  refine g_iload_n (M := mX11_share) (pc := 141) dX11_share_141 rfl (k := ?_)
                  refine g_iload_n (M := mX11_share) (pc := 142) dX11_share_142 rfl (k := ?_)
                  refine g_iload (M := mX11_share) (pc := 143) dX11_share_143 rfl (k := ?_)
                  refine g_cV3I (M := mX11_share) (pc := 145) (c_X11_isLetIn Γ t _ _ _ _ hI127 (by omega) (by omega) (by omega)) qX11_isLetIn vX11_isLetIn sX11_isLetIn kX11_355 dX11_share_145 (kk := ?_)
                  rintro r145 τ145 ⟨hi145, hI145, hG145⟩
                  have hF145 : Fr scJ σ τ145 := by refine Fr.tr ?_ (Fr.mono hG145 sb_jcC_scJ); exact hF127
                  refine g_if_eq (M := mX11_share) (pc := 148) (tgt := 158) (by omega) dX11_share_148 (k1 := fun h148 => ?_) (k2 := fun h148 => ?_)
                  · skip
                    refine g_iload (M := mX11_share) (pc := 158) dX11_share_158 rfl (k := ?_)
                    refine g_iret (M := mX11_share) (pc := 160) rfl dX11_share_160 rfl ⟨_, _, rfl, rfl, ?_⟩
                    refine ⟨?_, ?_⟩
                    · exact hI145
                    · exact hF145
                  · skip
                    refine g_iload (M := mX11_share) (pc := 151) dX11_share_151 rfl (k := ?_)
                    refine g_iconst (M := mX11_share) (pc := 153) dX11_share_153 (k := ?_)
                    refine g_iadd (M := mX11_share) (pc := 154) dX11_share_154 (k := ?_)
                    refine g_goto (M := mX11_share) (pc := 155) (tgt := 160) dX11_share_155 (k := ?_)
                    refine g_iret (M := mX11_share) (pc := 160) rfl dX11_share_160 rfl ⟨_, _, rfl, rfl, ?_⟩
                    refine ⟨?_, ?_⟩
                    · exact hI145
                    · exact hF145
                · skip
                  refine g_iconst (M := mX11_share) (pc := 133) dX11_share_133 (k := ?_)
                  refine g_goto (M := mX11_share) (pc := 134) (tgt := 138) dX11_share_134 (k := ?_)
                  refine g_istore_8 (M := mX11_share) (pc := 138) dX11_share_138 (k := ?_)
                  refine g_aload_n (M := mX11_share) (pc := 140) dX11_share_140 rfl (k := ?_)
                  refine g_iload_n (M := mX11_share) (pc := 141) dX11_share_141 rfl (k := ?_)
                  refine g_iload_n (M := mX11_share) (pc := 142) dX11_share_142 rfl (k := ?_)
                  refine g_iload (M := mX11_share) (pc := 143) dX11_share_143 rfl (k := ?_)
                  refine g_cV3I (M := mX11_share) (pc := 145) (c_X11_isLetIn Γ t _ _ _ _ hI127 (by omega) (by omega) (by omega)) qX11_isLetIn vX11_isLetIn sX11_isLetIn kX11_355 dX11_share_145 (kk := ?_)
                  rintro r145 τ145 ⟨hi145, hI145, hG145⟩
                  have hF145 : Fr scJ σ τ145 := by refine Fr.tr ?_ (Fr.mono hG145 sb_jcC_scJ); exact hF127
                  refine g_if_eq (M := mX11_share) (pc := 148) (tgt := 158) (by omega) dX11_share_148 (k1 := fun h148 => ?_) (k2 := fun h148 => ?_)
                  · skip
                    refine g_iload (M := mX11_share) (pc := 158) dX11_share_158 rfl (k := ?_)
                    refine g_iret (M := mX11_share) (pc := 160) rfl dX11_share_160 rfl ⟨_, _, rfl, rfl, ?_⟩
                    refine ⟨?_, ?_⟩
                    · exact hI145
                    · exact hF145
                  · skip
                    refine g_iload (M := mX11_share) (pc := 151) dX11_share_151 rfl (k := ?_)
                    refine g_iconst (M := mX11_share) (pc := 153) dX11_share_153 (k := ?_)
                    refine g_iadd (M := mX11_share) (pc := 154) dX11_share_154 (k := ?_)
                    refine g_goto (M := mX11_share) (pc := 155) (tgt := 160) dX11_share_155 (k := ?_)
                    refine g_iret (M := mX11_share) (pc := 160) rfl dX11_share_160 rfl ⟨_, _, rfl, rfl, ?_⟩
                    refine ⟨?_, ?_⟩
                    · exact hI145
                    · exact hF145
              · skip
                refine g_iload (M := mX11_share) (pc := 119) dX11_share_119 rfl (k := ?_)
                refine g_iret (M := mX11_share) (pc := 121) rfl dX11_share_121 rfl ⟨_, _, rfl, rfl, ?_⟩
                refine ⟨?_, ?_⟩
                · exact hI85
                · exact hF85
            · skip
              refine g_iload (M := mX11_share) (pc := 68) dX11_share_68 rfl (k := ?_)
              refine g_goto (M := mX11_share) (pc := 70) (tgt := 75) dX11_share_70 (k := ?_)
              refine g_aload_n (M := mX11_share) (pc := 75) dX11_share_75 rfl (k := ?_)
              refine g_aload_n (M := mX11_share) (pc := 76) dX11_share_76 rfl (k := ?_)
              refine g_iload_n (M := mX11_share) (pc := 77) dX11_share_77 rfl (k := ?_)
              refine g_iload_n (M := mX11_share) (pc := 78) dX11_share_78 rfl (k := ?_)
              refine g_aload_n (M := mX11_share) (pc := 79) dX11_share_79 rfl (k := ?_)
              refine g_getr (M := mX11_share) (pc := 80) (by rfl) fX11_8 kX11_35 dX11_share_80 (by rfl) (kk := ?_)
              refine g_iload_n (M := mX11_share) (pc := 83) dX11_share_83 rfl (k := ?_)
              refine g_iald (M := mX11_share) (pc := 84) (by rfl) (by omega) (by omega) dX11_share_84 (kk := fun hr84 => ?_)
              have hb84 := jv76_0 hI56 a (by omega) (by omega)
              refine g_cV3I (M := mX11_share) (pc := 85) (c_X11_slowOf Γ t _ _ _ _ hI56 (JS_fr hS (by exact Fr.mono hF56 sb_scJ_jNS)) (by omega) (by omega) (by omega)) qX11_slowOf vX11_slowOf sX11_slowOf kX11_304 dX11_share_85 (kk := ?_)
              rintro r85 τ85 ⟨hi85, hI85, hG85⟩
              have hk85_69_1 := hG85 69 1 rfl
              have hF85 : Fr scJ σ τ85 := by refine Fr.tr ?_ (Fr.mono hG85 sb_jcH_scJ); exact hF56
              refine g_aload_n (M := mX11_share) (pc := 88) dX11_share_88 rfl (k := ?_)
              refine g_getr (M := mX11_share) (pc := 89) (by rfl) fX11_4 kX11_23 dX11_share_89 (by rfl) (kk := ?_)
              refine g_iload_n (M := mX11_share) (pc := 92) dX11_share_92 rfl (k := ?_)
              refine g_iald (M := mX11_share) (pc := 93) (by rfl) (by omega) (by omega) dX11_share_93 (kk := fun hr93 => ?_)
              have hb93 := jv72_0 hI85 h (by omega) (by omega)
              refine g_imul (M := mX11_share) (pc := 94) dX11_share_94 (k := ?_)
              have hz94 := mulP (a := r85) (b := (τ85 72 h)) (A := 990) (C := 99) (by omega) (by omega)
              refine g_aload_n (M := mX11_share) (pc := 95) dX11_share_95 rfl (k := ?_)
              refine g_getr (M := mX11_share) (pc := 96) (by rfl) fX11_9 kX11_38 dX11_share_96 (by rfl) (kk := ?_)
              refine g_iload_n (M := mX11_share) (pc := 99) dX11_share_99 rfl (k := ?_)
              refine g_iald (M := mX11_share) (pc := 100) (by rfl) (by omega) (by omega) dX11_share_100 (kk := fun hr100 => ?_)
              have hb100 := jv77_0 hI85 a (by omega) (by omega)
              refine g_aload_n (M := mX11_share) (pc := 101) dX11_share_101 rfl (k := ?_)
              refine g_getr (M := mX11_share) (pc := 102) (by rfl) fX11_9 kX11_38 dX11_share_102 (by rfl) (kk := ?_)
              refine g_iload_n (M := mX11_share) (pc := 105) dX11_share_105 rfl (k := ?_)
              refine g_iald (M := mX11_share) (pc := 106) (by rfl) (by omega) (by omega) dX11_share_106 (kk := fun hr106 => ?_)
              have hb106 := jv77_0 hI85 b (by omega) (by omega)
              refine g_iadd (M := mX11_share) (pc := 107) dX11_share_107 (k := ?_)
              have hqa := JS_q (JS_fr hS (Fr.mono hF85 sb_scJ_jNS)) (f := a) (by omega) (by omega)
              have hqb := JS_q (JS_fr hS (Fr.mono hF85 sb_scJ_jNS)) (f := b) (by omega) (by omega)
              refine g_cV2I (M := mX11_share) (pc := 108) (c_X11_upBy Γ t _ _ _ (by omega) (by omega)) qX11_upBy vX11_upBy sX11_upBy kX11_327 dX11_share_108 (kk := ?_)
              rintro r108 _ ⟨hd108, e⟩; rw [e]; clear e
              refine g_iadd (M := mX11_share) (pc := 111) dX11_share_111 (k := ?_)
              refine g_istore_7 (M := mX11_share) (pc := 112) dX11_share_112 (k := ?_)
              refine g_iload (M := mX11_share) (pc := 114) dX11_share_114 rfl (k := ?_)
              refine g_if_ne (M := mX11_share) (pc := 116) (tgt := 122) (by omega) dX11_share_116 (k1 := fun h116 => ?_) (k2 := fun h116 => ?_)
              · skip
                refine g_aload_n (M := mX11_share) (pc := 122) dX11_share_122 rfl (k := ?_)
                refine g_iload_n (M := mX11_share) (pc := 123) dX11_share_123 rfl (k := ?_)
                refine g_iload_n (M := mX11_share) (pc := 124) dX11_share_124 rfl (k := ?_)
                refine g_iload (M := mX11_share) (pc := 125) dX11_share_125 rfl (k := ?_)
                refine g_cV3I (M := mX11_share) (pc := 127) (c_X11_isLetIn Γ t _ _ _ _ hI85 (by omega) (by omega) (by omega)) qX11_isLetIn vX11_isLetIn sX11_isLetIn kX11_355 dX11_share_127 (kk := ?_)
                rintro r127 τ127 ⟨hi127, hI127, hG127⟩
                have hF127 : Fr scJ σ τ127 := by refine Fr.tr ?_ (Fr.mono hG127 sb_jcC_scJ); exact hF85
                refine g_if_eq (M := mX11_share) (pc := 130) (tgt := 137) (by omega) dX11_share_130 (k1 := fun h130 => ?_) (k2 := fun h130 => ?_)
                · skip
                  refine g_iconst (M := mX11_share) (pc := 137) dX11_share_137 (k := ?_)
                  refine g_istore_8 (M := mX11_share) (pc := 138) dX11_share_138 (k := ?_)
                  refine g_aload_n (M := mX11_share) (pc := 140) dX11_share_140 rfl (k := ?_)
                  refine g_iload_n (M := mX11_share) (pc := 141) dX11_share_141 rfl (k := ?_)
                  refine g_iload_n (M := mX11_share) (pc := 142) dX11_share_142 rfl (k := ?_)
                  refine g_iload (M := mX11_share) (pc := 143) dX11_share_143 rfl (k := ?_)
                  refine g_cV3I (M := mX11_share) (pc := 145) (c_X11_isLetIn Γ t _ _ _ _ hI127 (by omega) (by omega) (by omega)) qX11_isLetIn vX11_isLetIn sX11_isLetIn kX11_355 dX11_share_145 (kk := ?_)
                  rintro r145 τ145 ⟨hi145, hI145, hG145⟩
                  have hF145 : Fr scJ σ τ145 := by refine Fr.tr ?_ (Fr.mono hG145 sb_jcC_scJ); exact hF127
                  refine g_if_eq (M := mX11_share) (pc := 148) (tgt := 158) (by omega) dX11_share_148 (k1 := fun h148 => ?_) (k2 := fun h148 => ?_)
                  · skip
                    refine g_iload (M := mX11_share) (pc := 158) dX11_share_158 rfl (k := ?_)
                    refine g_iret (M := mX11_share) (pc := 160) rfl dX11_share_160 rfl ⟨_, _, rfl, rfl, ?_⟩
                    refine ⟨?_, ?_⟩
                    · exact hI145
                    · exact hF145
                  · skip
                    refine g_iload (M := mX11_share) (pc := 151) dX11_share_151 rfl (k := ?_)
                    refine g_iconst (M := mX11_share) (pc := 153) dX11_share_153 (k := ?_)
                    refine g_iadd (M := mX11_share) (pc := 154) dX11_share_154 (k := ?_)
                    refine g_goto (M := mX11_share) (pc := 155) (tgt := 160) dX11_share_155 (k := ?_)
                    refine g_iret (M := mX11_share) (pc := 160) rfl dX11_share_160 rfl ⟨_, _, rfl, rfl, ?_⟩
                    refine ⟨?_, ?_⟩
                    · exact hI145
                    · exact hF145
                · skip
                  refine g_iconst (M := mX11_share) (pc := 133) dX11_share_133 (k := ?_)
                  refine g_goto (M := mX11_share) (pc := 134) (tgt := 138) dX11_share_134 (k := ?_)
                  refine g_istore_8 (M := mX11_share) (pc := 138) dX11_share_138 (k := ?_)
                  refine g_aload_n (M := mX11_share) (pc := 140) dX11_share_140 rfl (k := ?_)
                  refine g_iload_n (M := mX11_share) (pc := 141) dX11_share_141 rfl (k := ?_)
                  refine g_iload_n (M := mX11_share) (pc := 142) dX11_share_142 rfl (k := ?_)
                  refine g_iload (M := mX11_share) (pc := 143) dX11_share_143 rfl (k := ?_)
                  refine g_cV3I (M := mX11_share) (pc := 145) (c_X11_isLetIn Γ t _ _ _ _ hI127 (by omega) (by omega) (by omega)) qX11_isLetIn vX11_isLetIn sX11_isLetIn kX11_355 dX11_share_145 (kk := ?_)
                  rintro r145 τ145 ⟨hi145, hI145, hG145⟩
                  have hF145 : Fr scJ σ τ145 := by refine Fr.tr ?_ (Fr.mono hG145 sb_jcC_scJ); exact hF127
                  refine g_if_eq (M := mX11_share) (pc := 148) (tgt := 158) (by omega) dX11_share_148 (k1 := fun h148 => ?_) (k2 := fun h148 => ?_)
                  · skip
                    refine g_iload (M := mX11_share) (pc := 158) dX11_share_158 rfl (k := ?_)
                    refine g_iret (M := mX11_share) (pc := 160) rfl dX11_share_160 rfl ⟨_, _, rfl, rfl, ?_⟩
                    refine ⟨?_, ?_⟩
                    · exact hI145
                    · exact hF145
                  · skip
                    refine g_iload (M := mX11_share) (pc := 151) dX11_share_151 rfl (k := ?_)
                    refine g_iconst (M := mX11_share) (pc := 153) dX11_share_153 (k := ?_)
                    refine g_iadd (M := mX11_share) (pc := 154) dX11_share_154 (k := ?_)
                    refine g_goto (M := mX11_share) (pc := 155) (tgt := 160) dX11_share_155 (k := ?_)
                    refine g_iret (M := mX11_share) (pc := 160) rfl dX11_share_160 rfl ⟨_, _, rfl, rfl, ?_⟩
                    refine ⟨?_, ?_⟩
                    · exact hI145
                    · exact hF145
              · skip
                refine g_iload (M := mX11_share) (pc := 119) dX11_share_119 rfl (k := ?_)
                refine g_iret (M := mX11_share) (pc := 121) rfl dX11_share_121 rfl ⟨_, _, rfl, rfl, ?_⟩
                refine ⟨?_, ?_⟩
                · exact hI85
                · exact hF85
          · skip
            refine g_bipush (M := mX11_share) (pc := 42) dX11_share_42 (k := ?_)
            refine g_iret (M := mX11_share) (pc := 44) rfl dX11_share_44 rfl ⟨_, _, rfl, rfl, ?_⟩
            refine ⟨?_, ?_⟩
            · exact hI
            · exact (Fr.rf)
        · skip
          refine g_iconst (M := mX11_share) (pc := 35) dX11_share_35 (k := ?_)
          refine g_iret (M := mX11_share) (pc := 36) rfl dX11_share_36 rfl ⟨_, _, rfl, rfl, ?_⟩
          refine ⟨?_, ?_⟩
          · exact hI
          · exact (Fr.rf)
set_option maxHeartbeats 4000000 in
set_option maxRecDepth 20000 in
theorem c_X11_suspects (Γ : KT) (t : Nat) (σ : Nat → Int → Int)  (hI : InvJ σ) (hS : JS σ) : Ct Γ mX11_suspects 7 (0, 0) [vR Γ 69] (113, ρT t, σ) (pI 113 (ρT t) (fun r σ' => (R32 r) ∧ (InvJ σ') ∧ (Fr scJ σ σ'))) := by
  refine Ct.of rfl (Nat.le_of_ble_eq_true rfl) ?_
  show G Γ mX11_suspects 7 (0, 0) _ (0, 0) 0 [some (vR Γ 69), none, none, none, none] [] (113, ρT t, σ)
  refine g_iconst (M := mX11_suspects) (pc := 0) dX11_suspects_0 (k := ?_)
  refine g_istore_1 (M := mX11_suspects) (pc := 1) dX11_suspects_1 (k := ?_)
  refine g_iconst (M := mX11_suspects) (pc := 2) dX11_suspects_2 (k := ?_)
  refine g_istore_2 (M := mX11_suspects) (pc := 3) dX11_suspects_3 (k := ?_)
  have loop4 : ∀ (N : Nat) (τ4 : Nat → Int → Int) (se : Int) (f : Int), ((5 - f).toNat) < N → ((InvJ τ4) ∧ (Fr scJ σ τ4) ∧ (-2147483648 ≤ se ∧ se ≤ 2147483647) ∧ (0 ≤ f ∧ f ≤ 4)) → G Γ mX11_suspects 7 (0, 0) (pI 113 (ρT t) (fun r σ' => (R32 r) ∧ (InvJ σ') ∧ (Fr scJ σ σ'))) (0, 0) 4 [some (vR Γ 69), some (vI se), some (vI f), none, none] [] (113, ρT t, τ4) := by
    intro N
    induction N with
    | zero => intro τ4 se f hmu4 hinv4; exact absurd hmu4 (Nat.not_lt_zero _)
    | succ N ih4 =>
      intro τ4 se f hmu4 hinv4
      obtain ⟨hI4, hF4, hb4_se, hb4_f⟩ := hinv4
      have he4_69_1 := hF4 69 1 rfl
      refine g_iload_n (M := mX11_suspects) (pc := 4) dX11_suspects_4 rfl (k := ?_)
      refine g_aload_n (M := mX11_suspects) (pc := 5) dX11_suspects_5 rfl (k := ?_)
      refine g_get (M := mX11_suspects) (pc := 6) (ji := 1) (by rfl) fX11_1 kX11_13 dX11_suspects_6 (kk := fun hr6 => ?_)
      have hb6 := jv69_1 hI4 1 (by omega) (by omega)
      refine g_icmp_ge (M := mX11_suspects) (pc := 9) (tgt := 85) (by omega) (by omega) dX11_suspects_9 (k1 := fun h9 => ?_) (k2 := fun h9 => ?_)
      · skip
        refine g_iload_n (M := mX11_suspects) (pc := 85) dX11_suspects_85 rfl (k := ?_)
        refine g_iret (M := mX11_suspects) (pc := 86) rfl dX11_suspects_86 rfl ⟨_, _, rfl, rfl, ?_⟩
        refine ⟨?_, ?_, ?_⟩
        · omega
        · exact hI4
        · exact hF4
      · skip
        refine g_iconst (M := mX11_suspects) (pc := 12) dX11_suspects_12 (k := ?_)
        refine g_istore_3 (M := mX11_suspects) (pc := 13) dX11_suspects_13 (k := ?_)
        refine g_iconst (M := mX11_suspects) (pc := 14) dX11_suspects_14 (k := ?_)
        refine g_istore_4 (M := mX11_suspects) (pc := 15) dX11_suspects_15 (k := ?_)
        have loop17 : ∀ (N : Nat) (τ17 : Nat → Int → Int) (is : Int) (k : Int), ((9 - k).toNat) < N → ((InvJ τ17) ∧ (Fr scJ σ τ17) ∧ (0 ≤ is ∧ is ≤ 1) ∧ (0 ≤ k ∧ k ≤ 8)) → G Γ mX11_suspects 7 (0, 0) (pI 113 (ρT t) (fun r σ' => (R32 r) ∧ (InvJ σ') ∧ (Fr scJ σ σ'))) (0, 0) 17 [some (vR Γ 69), some (vI se), some (vI f), some (vI is), some (vI k)] [] (113, ρT t, τ17) := by
          intro N
          induction N with
          | zero => intro τ17 is k hmu17 hinv17; exact absurd hmu17 (Nat.not_lt_zero _)
          | succ N ih17 =>
            intro τ17 is k hmu17 hinv17
            obtain ⟨hI17, hF17, hb17_is, hb17_k⟩ := hinv17
            have he17_69_1 := hF17 69 1 rfl
            refine g_iload (M := mX11_suspects) (pc := 17) dX11_suspects_17 rfl (k := ?_)
            refine g_aload_n (M := mX11_suspects) (pc := 19) dX11_suspects_19 rfl (k := ?_)
            refine g_get (M := mX11_suspects) (pc := 20) (ji := 38) (by rfl) fX11_38 kX11_126 dX11_suspects_20 (kk := fun hr20 => ?_)
            have hb20 := jv69_38 hI17 38 (by omega) (by omega)
            refine g_icmp_ge (M := mX11_suspects) (pc := 23) (tgt := 65) (by omega) (by omega) dX11_suspects_23 (k1 := fun h23 => ?_) (k2 := fun h23 => ?_)
            · skip
              refine g_iload_n (M := mX11_suspects) (pc := 65) dX11_suspects_65 rfl (k := ?_)
              refine g_iload_n (M := mX11_suspects) (pc := 66) dX11_suspects_66 rfl (k := ?_)
              refine g_if_eq (M := mX11_suspects) (pc := 67) (tgt := 76) (by omega) dX11_suspects_67 (k1 := fun h67 => ?_) (k2 := fun h67 => ?_)
              · skip
                refine g_iconst (M := mX11_suspects) (pc := 76) dX11_suspects_76 (k := ?_)
                refine g_ior (M := mX11_suspects) (pc := 77) dX11_suspects_77 (k := ?_)
                have hz77 := zorR se 0
                refine g_istore_1 (M := mX11_suspects) (pc := 78) dX11_suspects_78 (k := ?_)
                refine g_iinc_2 (M := mX11_suspects) (pc := 79) dX11_suspects_79 (k := ?_)
                refine g_goto (M := mX11_suspects) (pc := 82) (tgt := 4) dX11_suspects_82 (k := ?_)
                refine g_less (leL_s (leL_s (leL_s (leL_n (leL_n leL_0))))) ?_
                refine ih4 _ _ _ ?_ ?_
                · omega
                · skip
                  refine ⟨?_, ?_, ?_, ?_⟩
                  · exact hI17
                  · exact hF17
                  · omega
                  · omega
              · skip
                refine g_iconst (M := mX11_suspects) (pc := 70) dX11_suspects_70 (k := ?_)
                refine g_iload_n (M := mX11_suspects) (pc := 71) dX11_suspects_71 rfl (k := ?_)
                refine g_ishl (M := mX11_suspects) (pc := 72) dX11_suspects_72 (k := ?_)
                have hz72 := zshlR 1 f
                refine g_goto (M := mX11_suspects) (pc := 73) (tgt := 77) dX11_suspects_73 (k := ?_)
                refine g_ior (M := mX11_suspects) (pc := 77) dX11_suspects_77 (k := ?_)
                have hz77 := zorR se (zshl 1 f)
                refine g_istore_1 (M := mX11_suspects) (pc := 78) dX11_suspects_78 (k := ?_)
                refine g_iinc_2 (M := mX11_suspects) (pc := 79) dX11_suspects_79 (k := ?_)
                refine g_goto (M := mX11_suspects) (pc := 82) (tgt := 4) dX11_suspects_82 (k := ?_)
                refine g_less (leL_s (leL_s (leL_s (leL_n (leL_n leL_0))))) ?_
                refine ih4 _ _ _ ?_ ?_
                · omega
                · skip
                  refine ⟨?_, ?_, ?_, ?_⟩
                  · exact hI17
                  · exact hF17
                  · omega
                  · omega
            · skip
              refine g_iload_n (M := mX11_suspects) (pc := 26) dX11_suspects_26 rfl (k := ?_)
              refine g_if_eq (M := mX11_suspects) (pc := 27) (tgt := 65) (by omega) dX11_suspects_27 (k1 := fun h27 => ?_) (k2 := fun h27 => ?_)
              · skip
                refine g_iload_n (M := mX11_suspects) (pc := 65) dX11_suspects_65 rfl (k := ?_)
                refine g_iload_n (M := mX11_suspects) (pc := 66) dX11_suspects_66 rfl (k := ?_)
                refine g_if_eq (M := mX11_suspects) (pc := 67) (tgt := 76) (by omega) dX11_suspects_67 (k1 := fun h67 => ?_) (k2 := fun h67 => ?_)
                · skip
                  refine g_iconst (M := mX11_suspects) (pc := 76) dX11_suspects_76 (k := ?_)
                  refine g_ior (M := mX11_suspects) (pc := 77) dX11_suspects_77 (k := ?_)
                  have hz77 := zorR se 0
                  refine g_istore_1 (M := mX11_suspects) (pc := 78) dX11_suspects_78 (k := ?_)
                  refine g_iinc_2 (M := mX11_suspects) (pc := 79) dX11_suspects_79 (k := ?_)
                  refine g_goto (M := mX11_suspects) (pc := 82) (tgt := 4) dX11_suspects_82 (k := ?_)
                  refine g_less (leL_s (leL_s (leL_s (leL_n (leL_n leL_0))))) ?_
                  refine ih4 _ _ _ ?_ ?_
                  · omega
                  · skip
                    refine ⟨?_, ?_, ?_, ?_⟩
                    · exact hI17
                    · exact hF17
                    · omega
                    · omega
                · skip
                  refine g_iconst (M := mX11_suspects) (pc := 70) dX11_suspects_70 (k := ?_)
                  refine g_iload_n (M := mX11_suspects) (pc := 71) dX11_suspects_71 rfl (k := ?_)
                  refine g_ishl (M := mX11_suspects) (pc := 72) dX11_suspects_72 (k := ?_)
                  have hz72 := zshlR 1 f
                  refine g_goto (M := mX11_suspects) (pc := 73) (tgt := 77) dX11_suspects_73 (k := ?_)
                  refine g_ior (M := mX11_suspects) (pc := 77) dX11_suspects_77 (k := ?_)
                  have hz77 := zorR se (zshl 1 f)
                  refine g_istore_1 (M := mX11_suspects) (pc := 78) dX11_suspects_78 (k := ?_)
                  refine g_iinc_2 (M := mX11_suspects) (pc := 79) dX11_suspects_79 (k := ?_)
                  refine g_goto (M := mX11_suspects) (pc := 82) (tgt := 4) dX11_suspects_82 (k := ?_)
                  refine g_less (leL_s (leL_s (leL_s (leL_n (leL_n leL_0))))) ?_
                  refine ih4 _ _ _ ?_ ?_
                  · omega
                  · skip
                    refine ⟨?_, ?_, ?_, ?_⟩
                    · exact hI17
                    · exact hF17
                    · omega
                    · omega
              · skip
                refine g_aload_n (M := mX11_suspects) (pc := 30) dX11_suspects_30 rfl (k := ?_)
                refine g_iload_n (M := mX11_suspects) (pc := 31) dX11_suspects_31 rfl (k := ?_)
                refine g_aload_n (M := mX11_suspects) (pc := 32) dX11_suspects_32 rfl (k := ?_)
                refine g_getr (M := mX11_suspects) (pc := 33) (by rfl) fX11_39 kX11_129 dX11_suspects_33 (by rfl) (kk := ?_)
                refine g_iload (M := mX11_suspects) (pc := 36) dX11_suspects_36 rfl (k := ?_)
                refine g_iald (M := mX11_suspects) (pc := 38) (by rfl) (by omega) (by omega) dX11_suspects_38 (kk := fun hr38 => ?_)
                have hb38 := jv91_0 hI17 k (by omega) (by omega)
                refine g_iconst (M := mX11_suspects) (pc := 39) dX11_suspects_39 (k := ?_)
                refine g_cV3I (M := mX11_suspects) (pc := 40) (c_X11_comesIn Γ t _ _ _ _ hI17 (JS_fr hS (by exact Fr.mono hF17 sb_scJ_jNS)) (by omega) (by omega) (by omega)) qX11_comesIn vX11_comesIn sX11_comesIn kX11_343 dX11_suspects_40 (kk := ?_)
                rintro r40 τ40 ⟨hi40, hm40, hI40, hG40⟩
                have hF40 : Fr scJ σ τ40 := by refine Fr.tr ?_ (Fr.mono hG40 sb_jcC_scJ); exact hF17
                refine g_aload_n (M := mX11_suspects) (pc := 43) dX11_suspects_43 rfl (k := ?_)
                refine g_getr (M := mX11_suspects) (pc := 44) (by rfl) fX11_40 kX11_132 dX11_suspects_44 (by rfl) (kk := ?_)
                refine g_iload (M := mX11_suspects) (pc := 47) dX11_suspects_47 rfl (k := ?_)
                refine g_zald (M := mX11_suspects) (pc := 49) (by rfl) (by omega) (by omega) dX11_suspects_49 (kk := fun hr49 => ?_)
                have hb49 := jv92_0 hI40 k (by omega) (by omega)
                refine g_icmp_ne (M := mX11_suspects) (pc := 50) (tgt := 57) (by omega) (by omega) dX11_suspects_50 (k1 := fun h50 => ?_) (k2 := fun h50 => ?_)
                · skip
                  refine g_iconst (M := mX11_suspects) (pc := 57) dX11_suspects_57 (k := ?_)
                  refine g_istore_3 (M := mX11_suspects) (pc := 58) dX11_suspects_58 (k := ?_)
                  refine g_iinc_4 (M := mX11_suspects) (pc := 59) dX11_suspects_59 (k := ?_)
                  refine g_goto (M := mX11_suspects) (pc := 62) (tgt := 17) dX11_suspects_62 (k := ?_)
                  refine ih17 _ _ _ ?_ ?_
                  · omega
                  · skip
                    refine ⟨?_, ?_, ?_, ?_⟩
                    · exact hI40
                    · exact hF40
                    · omega
                    · omega
                · skip
                  refine g_iconst (M := mX11_suspects) (pc := 53) dX11_suspects_53 (k := ?_)
                  refine g_goto (M := mX11_suspects) (pc := 54) (tgt := 58) dX11_suspects_54 (k := ?_)
                  refine g_istore_3 (M := mX11_suspects) (pc := 58) dX11_suspects_58 (k := ?_)
                  refine g_iinc_4 (M := mX11_suspects) (pc := 59) dX11_suspects_59 (k := ?_)
                  refine g_goto (M := mX11_suspects) (pc := 62) (tgt := 17) dX11_suspects_62 (k := ?_)
                  refine ih17 _ _ _ ?_ ?_
                  · omega
                  · skip
                    refine ⟨?_, ?_, ?_, ?_⟩
                    · exact hI40
                    · exact hF40
                    · omega
                    · omega
        refine loop17 _ _ _ _ (Nat.lt_succ_self _) ?_
        refine ⟨?_, ?_, ?_, ?_⟩
        · exact hI4
        · exact hF4
        · omega
        · omega
  refine loop4 _ _ _ _ (Nat.lt_succ_self _) ?_
  refine ⟨?_, ?_, ?_, ?_⟩
  · exact hI
  · exact (Fr.rf)
  · omega
  · omega
set_option maxHeartbeats 4000000 in
set_option maxRecDepth 20000 in
theorem c_X11_next (Γ : KT) (t : Nat) (σ : Nat → Int → Int)  (hI : InvJ σ) (hS : JS σ) : Ct Γ mX11_next 8 (0, 0) [vR Γ 69] (113, ρT t, σ) (pI 113 (ρT t) (fun r σ' => (-5 ≤ r ∧ r ≤ 5) ∧ (InvJ σ') ∧ (Fr scJ σ σ'))) := by
  refine Ct.of rfl (Nat.le_of_ble_eq_true rfl) ?_
  show G Γ mX11_next 8 (0, 0) _ (0, 0) 0 [some (vR Γ 69), none, none, none, none, none, none] [] (113, ρT t, σ)
  refine g_aload_n (M := mX11_next) (pc := 0) dX11_next_0 rfl (k := ?_)
  refine g_cV0I (M := mX11_next) (pc := 1) (c_X11_suspects Γ t _ hI hS) qX11_suspects vX11_suspects sX11_suspects kX11_358 dX11_next_1 (kk := ?_)
  rintro r1 τ1 ⟨hi1, hI1, hG1⟩
  have hF1 : Fr scJ σ τ1 := by refine Fr.tr ?_ hG1; exact (Fr.rf)
  refine g_istore_1 (M := mX11_next) (pc := 4) dX11_next_4 (k := ?_)
  refine g_bipush (M := mX11_next) (pc := 5) dX11_next_5 (k := ?_)
  refine g_istore_2 (M := mX11_next) (pc := 7) dX11_next_7 (k := ?_)
  refine g_iconst (M := mX11_next) (pc := 8) dX11_next_8 (k := ?_)
  refine g_istore_3 (M := mX11_next) (pc := 9) dX11_next_9 (k := ?_)
  refine g_iconst (M := mX11_next) (pc := 10) dX11_next_10 (k := ?_)
  refine g_istore_4 (M := mX11_next) (pc := 11) dX11_next_11 (k := ?_)
  have loop13 : ∀ (N : Nat) (τ13 : Nat → Int → Int) (fo : Int) (le : Int) (q : Int), ((7 - q).toNat) < N → ((InvJ τ13) ∧ (Fr scJ σ τ13) ∧ (-5 ≤ fo ∧ fo ≤ 5) ∧ (0 ≤ le ∧ le ≤ 4) ∧ (0 ≤ q ∧ q ≤ 6)) → G Γ mX11_next 8 (0, 0) (pI 113 (ρT t) (fun r σ' => (-5 ≤ r ∧ r ≤ 5) ∧ (InvJ σ') ∧ (Fr scJ σ σ'))) (0, 0) 13 [some (vR Γ 69), some (vI r1), some (vI fo), some (vI le), some (vI q), none, none] [] (113, ρT t, τ13) := by
    intro N
    induction N with
    | zero => intro τ13 fo le q hmu13 hinv13; exact absurd hmu13 (Nat.not_lt_zero _)
    | succ N ih13 =>
      intro τ13 fo le q hmu13 hinv13
      obtain ⟨hI13, hF13, hb13_fo, hb13_le, hb13_q⟩ := hinv13
      refine g_iload (M := mX11_next) (pc := 13) dX11_next_13 rfl (k := ?_)
      refine g_aload_n (M := mX11_next) (pc := 15) dX11_next_15 rfl (k := ?_)
      refine g_get (M := mX11_next) (pc := 16) (ji := 0) (by rfl) fX11_0 kX11_7 dX11_next_16 (kk := fun hr16 => ?_)
      have hb16 := jv69_0 hI13 0 (by omega) (by omega)
      refine g_icmp_ge (M := mX11_next) (pc := 19) (tgt := 123) (by omega) (by omega) dX11_next_19 (k1 := fun h19 => ?_) (k2 := fun h19 => ?_)
      · skip
        refine g_iload_n (M := mX11_next) (pc := 123) dX11_next_123 rfl (k := ?_)
        refine g_iret (M := mX11_next) (pc := 124) rfl dX11_next_124 rfl ⟨_, _, rfl, rfl, ?_⟩
        refine ⟨?_, ?_, ?_⟩
        · omega
        · exact hI13
        · exact hF13
      · skip
        refine g_iload_n (M := mX11_next) (pc := 22) dX11_next_22 rfl (k := ?_)
        refine g_if_eq (M := mX11_next) (pc := 23) (tgt := 123) (by omega) dX11_next_23 (k1 := fun h23 => ?_) (k2 := fun h23 => ?_)
        · skip
          refine g_iload_n (M := mX11_next) (pc := 123) dX11_next_123 rfl (k := ?_)
          refine g_iret (M := mX11_next) (pc := 124) rfl dX11_next_124 rfl ⟨_, _, rfl, rfl, ?_⟩
          refine ⟨?_, ?_, ?_⟩
          · omega
          · exact hI13
          · exact hF13
        · skip
          refine g_iconst (M := mX11_next) (pc := 26) dX11_next_26 (k := ?_)
          refine g_istore_5 (M := mX11_next) (pc := 27) dX11_next_27 (k := ?_)
          refine g_iconst (M := mX11_next) (pc := 29) dX11_next_29 (k := ?_)
          refine g_istore_6 (M := mX11_next) (pc := 30) dX11_next_30 (k := ?_)
          have loop32 : ∀ (N : Nat) (τ32 : Nat → Int → Int) (of : Int) (p : Int), ((5 - p).toNat) < N → ((InvJ τ32) ∧ (Fr scJ σ τ32) ∧ (-p ≤ of ∧ of ≤ p) ∧ (0 ≤ p ∧ p ≤ 4)) → G Γ mX11_next 8 (0, 0) (pI 113 (ρT t) (fun r σ' => (-5 ≤ r ∧ r ≤ 5) ∧ (InvJ σ') ∧ (Fr scJ σ σ'))) (0, 0) 32 [some (vR Γ 69), some (vI r1), some (vI fo), some (vI le), some (vI q), some (vI of), some (vI p)] [] (113, ρT t, τ32) := by
            intro N
            induction N with
            | zero => intro τ32 of p hmu32 hinv32; exact absurd hmu32 (Nat.not_lt_zero _)
            | succ N ih32 =>
              intro τ32 of p hmu32 hinv32
              obtain ⟨hI32, hF32, hb32_of, hb32_p⟩ := hinv32
              have he32_69_1 := hF32 69 1 rfl
              refine g_iload (M := mX11_next) (pc := 32) dX11_next_32 rfl (k := ?_)
              refine g_aload_n (M := mX11_next) (pc := 34) dX11_next_34 rfl (k := ?_)
              refine g_get (M := mX11_next) (pc := 35) (ji := 1) (by rfl) fX11_1 kX11_13 dX11_next_35 (kk := fun hr35 => ?_)
              have hb35 := jv69_1 hI32 1 (by omega) (by omega)
              refine g_icmp_ge (M := mX11_next) (pc := 38) (tgt := 83) (by omega) (by omega) dX11_next_38 (k1 := fun h38 => ?_) (k2 := fun h38 => ?_)
              · skip
                refine g_iload (M := mX11_next) (pc := 83) dX11_next_83 rfl (k := ?_)
                refine g_if_ge (M := mX11_next) (pc := 85) (tgt := 94) (by omega) dX11_next_85 (k1 := fun h85 => ?_) (k2 := fun h85 => ?_)
                · skip
                  refine g_iload (M := mX11_next) (pc := 94) dX11_next_94 rfl (k := ?_)
                  refine g_istore_5 (M := mX11_next) (pc := 96) dX11_next_96 (k := ?_)
                  refine g_iload_n (M := mX11_next) (pc := 98) dX11_next_98 rfl (k := ?_)
                  refine g_if_lt (M := mX11_next) (pc := 99) (tgt := 111) (by omega) dX11_next_99 (k1 := fun h99 => ?_) (k2 := fun h99 => ?_)
                  · skip
                    refine g_iload (M := mX11_next) (pc := 111) dX11_next_111 rfl (k := ?_)
                    refine g_istore_2 (M := mX11_next) (pc := 113) dX11_next_113 (k := ?_)
                    refine g_iload (M := mX11_next) (pc := 114) dX11_next_114 rfl (k := ?_)
                    refine g_istore_3 (M := mX11_next) (pc := 116) dX11_next_116 (k := ?_)
                    refine g_iinc_4 (M := mX11_next) (pc := 117) dX11_next_117 (k := ?_)
                    refine g_goto (M := mX11_next) (pc := 120) (tgt := 13) dX11_next_120 (k := ?_)
                    refine g_less (leL_s (leL_s (leL_s (leL_s (leL_s (leL_n (leL_n leL_0))))))) ?_
                    refine ih13 _ _ _ _ ?_ ?_
                    · omega
                    · skip
                      refine ⟨?_, ?_, ?_, ?_, ?_⟩
                      · exact hI32
                      · exact hF32
                      · omega
                      · omega
                      · omega
                  · skip
                    refine g_iload (M := mX11_next) (pc := 102) dX11_next_102 rfl (k := ?_)
                    refine g_iload_n (M := mX11_next) (pc := 104) dX11_next_104 rfl (k := ?_)
                    refine g_icmp_lt (M := mX11_next) (pc := 105) (tgt := 111) (by omega) (by omega) dX11_next_105 (k1 := fun h105 => ?_) (k2 := fun h105 => ?_)
                    · skip
                      refine g_iload (M := mX11_next) (pc := 111) dX11_next_111 rfl (k := ?_)
                      refine g_istore_2 (M := mX11_next) (pc := 113) dX11_next_113 (k := ?_)
                      refine g_iload (M := mX11_next) (pc := 114) dX11_next_114 rfl (k := ?_)
                      refine g_istore_3 (M := mX11_next) (pc := 116) dX11_next_116 (k := ?_)
                      refine g_iinc_4 (M := mX11_next) (pc := 117) dX11_next_117 (k := ?_)
                      refine g_goto (M := mX11_next) (pc := 120) (tgt := 13) dX11_next_120 (k := ?_)
                      refine g_less (leL_s (leL_s (leL_s (leL_s (leL_s (leL_n (leL_n leL_0))))))) ?_
                      refine ih13 _ _ _ _ ?_ ?_
                      · omega
                      · skip
                        refine ⟨?_, ?_, ?_, ?_, ?_⟩
                        · exact hI32
                        · exact hF32
                        · omega
                        · omega
                        · omega
                    · skip
                      refine g_goto (M := mX11_next) (pc := 108) (tgt := 117) dX11_next_108 (k := ?_)
                      refine g_iinc_4 (M := mX11_next) (pc := 117) dX11_next_117 (k := ?_)
                      refine g_goto (M := mX11_next) (pc := 120) (tgt := 13) dX11_next_120 (k := ?_)
                      refine g_less (leL_s (leL_s (leL_s (leL_s (leL_s (leL_n (leL_n leL_0))))))) ?_
                      refine ih13 _ _ _ _ ?_ ?_
                      · omega
                      · skip
                        refine ⟨?_, ?_, ?_, ?_, ?_⟩
                        · exact hI32
                        · exact hF32
                        · omega
                        · omega
                        · omega
                · skip
                  refine g_iload (M := mX11_next) (pc := 88) dX11_next_88 rfl (k := ?_)
                  refine g_ineg (M := mX11_next) (pc := 90) dX11_next_90 (k := ?_)
                  refine g_goto (M := mX11_next) (pc := 91) (tgt := 96) dX11_next_91 (k := ?_)
                  refine g_istore_5 (M := mX11_next) (pc := 96) dX11_next_96 (k := ?_)
                  refine g_iload_n (M := mX11_next) (pc := 98) dX11_next_98 rfl (k := ?_)
                  refine g_if_lt (M := mX11_next) (pc := 99) (tgt := 111) (by omega) dX11_next_99 (k1 := fun h99 => ?_) (k2 := fun h99 => ?_)
                  · skip
                    refine g_iload (M := mX11_next) (pc := 111) dX11_next_111 rfl (k := ?_)
                    refine g_istore_2 (M := mX11_next) (pc := 113) dX11_next_113 (k := ?_)
                    refine g_iload (M := mX11_next) (pc := 114) dX11_next_114 rfl (k := ?_)
                    refine g_istore_3 (M := mX11_next) (pc := 116) dX11_next_116 (k := ?_)
                    refine g_iinc_4 (M := mX11_next) (pc := 117) dX11_next_117 (k := ?_)
                    refine g_goto (M := mX11_next) (pc := 120) (tgt := 13) dX11_next_120 (k := ?_)
                    refine g_less (leL_s (leL_s (leL_s (leL_s (leL_s (leL_n (leL_n leL_0))))))) ?_
                    refine ih13 _ _ _ _ ?_ ?_
                    · omega
                    · skip
                      refine ⟨?_, ?_, ?_, ?_, ?_⟩
                      · exact hI32
                      · exact hF32
                      · omega
                      · omega
                      · omega
                  · skip
                    refine g_iload (M := mX11_next) (pc := 102) dX11_next_102 rfl (k := ?_)
                    refine g_iload_n (M := mX11_next) (pc := 104) dX11_next_104 rfl (k := ?_)
                    refine g_icmp_lt (M := mX11_next) (pc := 105) (tgt := 111) (by omega) (by omega) dX11_next_105 (k1 := fun h105 => ?_) (k2 := fun h105 => ?_)
                    · skip
                      refine g_iload (M := mX11_next) (pc := 111) dX11_next_111 rfl (k := ?_)
                      refine g_istore_2 (M := mX11_next) (pc := 113) dX11_next_113 (k := ?_)
                      refine g_iload (M := mX11_next) (pc := 114) dX11_next_114 rfl (k := ?_)
                      refine g_istore_3 (M := mX11_next) (pc := 116) dX11_next_116 (k := ?_)
                      refine g_iinc_4 (M := mX11_next) (pc := 117) dX11_next_117 (k := ?_)
                      refine g_goto (M := mX11_next) (pc := 120) (tgt := 13) dX11_next_120 (k := ?_)
                      refine g_less (leL_s (leL_s (leL_s (leL_s (leL_s (leL_n (leL_n leL_0))))))) ?_
                      refine ih13 _ _ _ _ ?_ ?_
                      · omega
                      · skip
                        refine ⟨?_, ?_, ?_, ?_, ?_⟩
                        · exact hI32
                        · exact hF32
                        · omega
                        · omega
                        · omega
                    · skip
                      refine g_goto (M := mX11_next) (pc := 108) (tgt := 117) dX11_next_108 (k := ?_)
                      refine g_iinc_4 (M := mX11_next) (pc := 117) dX11_next_117 (k := ?_)
                      refine g_goto (M := mX11_next) (pc := 120) (tgt := 13) dX11_next_120 (k := ?_)
                      refine g_less (leL_s (leL_s (leL_s (leL_s (leL_s (leL_n (leL_n leL_0))))))) ?_
                      refine ih13 _ _ _ _ ?_ ?_
                      · omega
                      · skip
                        refine ⟨?_, ?_, ?_, ?_, ?_⟩
                        · exact hI32
                        · exact hF32
                        · omega
                        · omega
                        · omega
              · skip
                refine g_iload (M := mX11_next) (pc := 41) dX11_next_41 rfl (k := ?_)
                refine g_aload_n (M := mX11_next) (pc := 43) dX11_next_43 rfl (k := ?_)
                refine g_iload_n (M := mX11_next) (pc := 44) dX11_next_44 rfl (k := ?_)
                refine g_iload (M := mX11_next) (pc := 45) dX11_next_45 rfl (k := ?_)
                refine g_cV2I (M := mX11_next) (pc := 47) (c_X11_has Γ t _ _ _) qX11_has vX11_has sX11_has kX11_314 dX11_next_47 (kk := ?_)
                rintro _ _ ⟨e1, e⟩; rw [e1, e]; clear e1 e
                have hq47_0 := zbitR r1 p
                refine g_if_neB (M := mX11_next) (pc := 50) (tgt := 57) dX11_next_50 (k1 := fun h50 => ?_) (k2 := fun h50 => ?_)
                · skip
                  refine g_aload_n (M := mX11_next) (pc := 57) dX11_next_57 rfl (k := ?_)
                  refine g_iload (M := mX11_next) (pc := 58) dX11_next_58 rfl (k := ?_)
                  refine g_iload (M := mX11_next) (pc := 60) dX11_next_60 rfl (k := ?_)
                  refine g_iconst (M := mX11_next) (pc := 62) dX11_next_62 (k := ?_)
                  refine g_cV3I (M := mX11_next) (pc := 63) (c_X11_comesIn Γ t _ _ _ _ hI32 (JS_fr hS (by exact Fr.mono hF32 sb_scJ_jNS)) (by omega) (by omega) (by omega)) qX11_comesIn vX11_comesIn sX11_comesIn kX11_343 dX11_next_63 (kk := ?_)
                  rintro r63 τ63 ⟨hi63, hm63, hI63, hG63⟩
                  have hF63 : Fr scJ σ τ63 := by refine Fr.tr ?_ (Fr.mono hG63 sb_jcC_scJ); exact hF32
                  refine g_if_eq (M := mX11_next) (pc := 66) (tgt := 73) (by omega) dX11_next_66 (k1 := fun h66 => ?_) (k2 := fun h66 => ?_)
                  · skip
                    refine g_iconst (M := mX11_next) (pc := 73) dX11_next_73 (k := ?_)
                    refine g_iadd (M := mX11_next) (pc := 74) dX11_next_74 (k := ?_)
                    refine g_istore_5 (M := mX11_next) (pc := 75) dX11_next_75 (k := ?_)
                    refine g_iinc_6 (M := mX11_next) (pc := 77) dX11_next_77 (k := ?_)
                    refine g_goto (M := mX11_next) (pc := 80) (tgt := 32) dX11_next_80 (k := ?_)
                    refine ih32 _ _ _ ?_ ?_
                    · omega
                    · skip
                      refine ⟨?_, ?_, ?_, ?_⟩
                      · exact hI63
                      · exact hF63
                      · omega
                      · omega
                  · skip
                    refine g_iconst (M := mX11_next) (pc := 69) dX11_next_69 (k := ?_)
                    refine g_goto (M := mX11_next) (pc := 70) (tgt := 74) dX11_next_70 (k := ?_)
                    refine g_iadd (M := mX11_next) (pc := 74) dX11_next_74 (k := ?_)
                    refine g_istore_5 (M := mX11_next) (pc := 75) dX11_next_75 (k := ?_)
                    refine g_iinc_6 (M := mX11_next) (pc := 77) dX11_next_77 (k := ?_)
                    refine g_goto (M := mX11_next) (pc := 80) (tgt := 32) dX11_next_80 (k := ?_)
                    refine ih32 _ _ _ ?_ ?_
                    · omega
                    · skip
                      refine ⟨?_, ?_, ?_, ?_⟩
                      · exact hI63
                      · exact hF63
                      · omega
                      · omega
                · skip
                  refine g_iconst (M := mX11_next) (pc := 53) dX11_next_53 (k := ?_)
                  refine g_goto (M := mX11_next) (pc := 54) (tgt := 74) dX11_next_54 (k := ?_)
                  refine g_iadd (M := mX11_next) (pc := 74) dX11_next_74 (k := ?_)
                  refine g_istore_5 (M := mX11_next) (pc := 75) dX11_next_75 (k := ?_)
                  refine g_iinc_6 (M := mX11_next) (pc := 77) dX11_next_77 (k := ?_)
                  refine g_goto (M := mX11_next) (pc := 80) (tgt := 32) dX11_next_80 (k := ?_)
                  refine ih32 _ _ _ ?_ ?_
                  · omega
                  · skip
                    refine ⟨?_, ?_, ?_, ?_⟩
                    · exact hI32
                    · exact hF32
                    · omega
                    · omega
          refine loop32 _ _ _ _ (Nat.lt_succ_self _) ?_
          refine ⟨?_, ?_, ?_, ?_⟩
          · exact hI13
          · exact hF13
          · omega
          · omega
  refine loop13 _ _ _ _ _ (Nat.lt_succ_self _) ?_
  refine ⟨?_, ?_, ?_, ?_, ?_⟩
  · exact hI1
  · exact hF1
  · omega
  · omega
  · omega
set_option maxHeartbeats 4000000 in
set_option maxRecDepth 20000 in
theorem c_X11_when (Γ : KT) (t : Nat) (σ : Nat → Int → Int) (f : Int) (h : Int) (hI : InvJ σ) (hS : JS σ) (hf : R32 f) (hh : R32 h) : Ct Γ mX11_when 7 (0, 0) [vR Γ 69, vI f, vI h] (113, ρT t, σ) (pI 113 (ρT t) (fun r σ' => (InvJ σ') ∧ (Fr scJ σ σ'))) := by
  refine Ct.of rfl (Nat.le_of_ble_eq_true rfl) ?_
  show G Γ mX11_when 7 (0, 0) _ (0, 0) 0 [some (vR Γ 69), some (vI f), some (vI h), none] [] (113, ρT t, σ)
  refine g_aload_n (M := mX11_when) (pc := 0) dX11_when_0 rfl (k := ?_)
  refine g_iload_n (M := mX11_when) (pc := 1) dX11_when_1 rfl (k := ?_)
  refine g_cV1I (M := mX11_when) (pc := 2) (c_X11_isFolk Γ t _ _ hI (by omega)) qX11_isFolk vX11_isFolk sX11_isFolk kX11_236 dX11_when_2 (kk := ?_)
  rintro _ _ ⟨e1, e⟩; rw [e1, e]; clear e1 e
  have hb2_69 := jv69_1 hI 1 (by omega) (by omega)
  refine g_if_eqB (M := mX11_when) (pc := 5) (tgt := 16) dX11_when_5 (k1 := fun h5 => ?_) (k2 := fun h5 => ?_)
  · skip
    refine g_iconst (M := mX11_when) (pc := 16) dX11_when_16 (k := ?_)
    refine g_iret (M := mX11_when) (pc := 17) rfl dX11_when_17 rfl ⟨_, _, rfl, rfl, ?_⟩
    refine ⟨?_, ?_⟩
    · exact hI
    · exact (Fr.rf)
  · skip
    refine g_aload_n (M := mX11_when) (pc := 8) dX11_when_8 rfl (k := ?_)
    refine g_iload_n (M := mX11_when) (pc := 9) dX11_when_9 rfl (k := ?_)
    refine g_cV1I (M := mX11_when) (pc := 10) (c_X11_isHouse Γ t _ _ hI (by omega)) qX11_isHouse vX11_isHouse sX11_isHouse kX11_232 dX11_when_10 (kk := ?_)
    rintro _ _ ⟨e1, e⟩; rw [e1, e]; clear e1 e
    have hb10_69 := jv69_0 hI 0 (by omega) (by omega)
    refine g_if_neB (M := mX11_when) (pc := 13) (tgt := 18) dX11_when_13 (k1 := fun h13 => ?_) (k2 := fun h13 => ?_)
    · skip
      refine g_iconst (M := mX11_when) (pc := 18) dX11_when_18 (k := ?_)
      refine g_istore_3 (M := mX11_when) (pc := 19) dX11_when_19 (k := ?_)
      have loop20 : ∀ (N : Nat) (τ20 : Nat → Int → Int) (m : Int), ((100 - m).toNat) < N → ((InvJ τ20) ∧ (Fr scJ σ τ20) ∧ (0 ≤ m ∧ m ≤ 99)) → G Γ mX11_when 7 (0, 0) (pI 113 (ρT t) (fun r σ' => (InvJ σ') ∧ (Fr scJ σ σ'))) (0, 0) 20 [some (vR Γ 69), some (vI f), some (vI h), some (vI m)] [] (113, ρT t, τ20) := by
        intro N
        induction N with
        | zero => intro τ20 m hmu20 hinv20; exact absurd hmu20 (Nat.not_lt_zero _)
        | succ N ih20 =>
          intro τ20 m hmu20 hinv20
          obtain ⟨hI20, hF20, hb20_m⟩ := hinv20
          have he20_69_1 := hF20 69 1 rfl
          refine g_iload_n (M := mX11_when) (pc := 20) dX11_when_20 rfl (k := ?_)
          refine g_bipush (M := mX11_when) (pc := 21) dX11_when_21 (k := ?_)
          refine g_icmp_ge (M := mX11_when) (pc := 23) (tgt := 44) (by omega) (by omega) dX11_when_23 (k1 := fun h23 => ?_) (k2 := fun h23 => ?_)
          · skip
            refine g_bipush (M := mX11_when) (pc := 44) dX11_when_44 (k := ?_)
            refine g_iret (M := mX11_when) (pc := 46) rfl dX11_when_46 rfl ⟨_, _, rfl, rfl, ?_⟩
            refine ⟨?_, ?_⟩
            · exact hI20
            · exact hF20
          · skip
            refine g_aload_n (M := mX11_when) (pc := 26) dX11_when_26 rfl (k := ?_)
            refine g_iload_n (M := mX11_when) (pc := 27) dX11_when_27 rfl (k := ?_)
            refine g_iload_n (M := mX11_when) (pc := 28) dX11_when_28 rfl (k := ?_)
            refine g_iload_n (M := mX11_when) (pc := 29) dX11_when_29 rfl (k := ?_)
            refine g_cV3I (M := mX11_when) (pc := 30) (c_X11_comesIn Γ t _ _ _ _ hI20 (JS_fr hS (by exact Fr.mono hF20 sb_scJ_jNS)) (by omega) (by omega) (by omega)) qX11_comesIn vX11_comesIn sX11_comesIn kX11_343 dX11_when_30 (kk := ?_)
            rintro r30 τ30 ⟨hi30, hm30, hI30, hG30⟩
            have hF30 : Fr scJ σ τ30 := by refine Fr.tr ?_ (Fr.mono hG30 sb_jcC_scJ); exact hF20
            refine g_if_eq (M := mX11_when) (pc := 33) (tgt := 38) (by omega) dX11_when_33 (k1 := fun h33 => ?_) (k2 := fun h33 => ?_)
            · skip
              refine g_iinc_3 (M := mX11_when) (pc := 38) dX11_when_38 (k := ?_)
              refine g_goto (M := mX11_when) (pc := 41) (tgt := 20) dX11_when_41 (k := ?_)
              refine ih20 _ _ ?_ ?_
              · omega
              · skip
                refine ⟨?_, ?_, ?_⟩
                · exact hI30
                · exact hF30
                · omega
            · skip
              refine g_iload_n (M := mX11_when) (pc := 36) dX11_when_36 rfl (k := ?_)
              refine g_iret (M := mX11_when) (pc := 37) rfl dX11_when_37 rfl ⟨_, _, rfl, rfl, ?_⟩
              refine ⟨?_, ?_⟩
              · exact hI30
              · exact hF30
      refine loop20 _ _ _ (Nat.lt_succ_self _) ?_
      refine ⟨?_, ?_, ?_⟩
      · exact hI
      · exact (Fr.rf)
      · omega
    · skip
      refine g_iconst (M := mX11_when) (pc := 16) dX11_when_16 (k := ?_)
      refine g_iret (M := mX11_when) (pc := 17) rfl dX11_when_17 rfl ⟨_, _, rfl, rfl, ?_⟩
      refine ⟨?_, ?_⟩
      · exact hI
      · exact (Fr.rf)
set_option maxHeartbeats 4000000 in
set_option maxRecDepth 20000 in
theorem c_X11_divisor (Γ : KT) (t : Nat) (σ : Nat → Int → Int) (a : Int) (b : Int) (ha : R32 a) (hb : R32 b) (hn : b ≠ 0) : Ct Γ mX11_divisor 1 (0, 0) [vR Γ 69, vI a, vI b] (113, ρT t, σ) (pI 113 (ρT t) (fun r σ' => (r ≠ 0) ∧ (R32 r) ∧ σ' = σ)) := by
  refine Ct.of rfl (Nat.le_of_ble_eq_true rfl) ?_
  show G Γ mX11_divisor 1 (0, 0) _ (0, 0) 0 [some (vR Γ 69), some (vI a), some (vI b), none, none, none] [] (113, ρT t, σ)
  refine g_iload_n (M := mX11_divisor) (pc := 0) dX11_divisor_0 rfl (k := ?_)
  refine g_istore_3 (M := mX11_divisor) (pc := 1) dX11_divisor_1 (k := ?_)
  refine g_iload_n (M := mX11_divisor) (pc := 2) dX11_divisor_2 rfl (k := ?_)
  refine g_istore_4 (M := mX11_divisor) (pc := 3) dX11_divisor_3 (k := ?_)
  have loop5 : ∀ (N : Nat) (p : Int) (q : Int), (q.natAbs) < N → ((-2147483648 ≤ p ∧ p ≤ 2147483647) ∧ (-2147483648 ≤ q ∧ q ≤ 2147483647) ∧ (p ≠ 0 ∨ q ≠ 0)) → G Γ mX11_divisor 1 (0, 0) (pI 113 (ρT t) (fun r σ' => (r ≠ 0) ∧ (R32 r) ∧ σ' = σ)) (0, 0) 5 [some (vR Γ 69), some (vI a), some (vI b), some (vI p), some (vI q), none] [] (113, ρT t, σ) := by
    intro N
    induction N with
    | zero => intro p q hmu5 hinv5; exact absurd hmu5 (Nat.not_lt_zero _)
    | succ N ih5 =>
      intro p q hmu5 hinv5
      obtain ⟨hb5_p, hb5_q, hx5_0⟩ := hinv5
      refine g_iload (M := mX11_divisor) (pc := 5) dX11_divisor_5 rfl (k := ?_)
      refine g_if_eq (M := mX11_divisor) (pc := 7) (tgt := 26) (by omega) dX11_divisor_7 (k1 := fun h7 => ?_) (k2 := fun h7 => ?_)
      · skip
        refine g_iload_n (M := mX11_divisor) (pc := 26) dX11_divisor_26 rfl (k := ?_)
        refine g_iret (M := mX11_divisor) (pc := 27) rfl dX11_divisor_27 rfl ⟨_, _, rfl, rfl, ?_⟩
        refine ⟨?_, ?_, rfl⟩
        · omega
        · omega
      · skip
        refine g_iload_n (M := mX11_divisor) (pc := 10) dX11_divisor_10 rfl (k := ?_)
        refine g_iload (M := mX11_divisor) (pc := 11) dX11_divisor_11 rfl (k := ?_)
        refine g_irem (M := mX11_divisor) (pc := 13) (by omega) (by omega) (by omega) dX11_divisor_13 (k := ?_)
        have hz13 := tmodG (a := p) (b := q) (by omega)
        refine g_istore_5 (M := mX11_divisor) (pc := 14) dX11_divisor_14 (k := ?_)
        refine g_iload (M := mX11_divisor) (pc := 16) dX11_divisor_16 rfl (k := ?_)
        refine g_istore_3 (M := mX11_divisor) (pc := 18) dX11_divisor_18 (k := ?_)
        refine g_iload (M := mX11_divisor) (pc := 19) dX11_divisor_19 rfl (k := ?_)
        refine g_istore_4 (M := mX11_divisor) (pc := 21) dX11_divisor_21 (k := ?_)
        refine g_goto (M := mX11_divisor) (pc := 23) (tgt := 5) dX11_divisor_23 (k := ?_)
        refine g_less (leL_s (leL_s (leL_s (leL_s (leL_s (leL_n leL_0)))))) ?_
        refine ih5 _ _ ?_ ?_
        · omega
        · skip
          refine ⟨?_, ?_, ?_⟩
          · omega
          · omega
          · omega
  refine loop5 _ _ _ (Nat.lt_succ_self _) ?_
  refine ⟨?_, ?_, ?_⟩
  · omega
  · omega
  · omega
set_option maxHeartbeats 4000000 in
set_option maxRecDepth 20000 in
theorem c_X11_lowest (Γ : KT) (t : Nat) (σ : Nat → Int → Int) (a : Int) (b : Int) (p : Int) (ha : 0 ≤ a ∧ a ≤ 2000000) (hb : 1 ≤ b ∧ b ≤ 60) (hp : R32 p) : Ct Γ mX11_lowest 2 (0, 0) [vR Γ 69, vI a, vI b, vI p] (113, ρT t, σ) (pL 113 (ρT t) (fun r σ' => (R64 r) ∧ σ' = σ)) := by
  refine Ct.of rfl (Nat.le_of_ble_eq_true rfl) ?_
  show G Γ mX11_lowest 2 (0, 0) _ (0, 0) 0 [some (vR Γ 69), some (vI a), some (vI b), some (vI p), none] [] (113, ρT t, σ)
  refine g_aload_n (M := mX11_lowest) (pc := 0) dX11_lowest_0 rfl (k := ?_)
  refine g_iload_n (M := mX11_lowest) (pc := 1) dX11_lowest_1 rfl (k := ?_)
  refine g_iload_n (M := mX11_lowest) (pc := 2) dX11_lowest_2 rfl (k := ?_)
  refine g_cV2I (M := mX11_lowest) (pc := 3) (c_X11_divisor Γ t _ _ _ (by omega) (by omega) (by omega)) qX11_divisor vX11_divisor sX11_divisor kX11_361 dX11_lowest_3 (kk := ?_)
  rintro r3 _ ⟨hn3, hi3, e⟩; rw [e]; clear e
  refine g_istore_4 (M := mX11_lowest) (pc := 6) dX11_lowest_6 (k := ?_)
  refine g_iload_n (M := mX11_lowest) (pc := 8) dX11_lowest_8 rfl (k := ?_)
  refine g_if_ne (M := mX11_lowest) (pc := 9) (tgt := 20) (by omega) dX11_lowest_9 (k1 := fun h9 => ?_) (k2 := fun h9 => ?_)
  · skip
    refine g_iload_n (M := mX11_lowest) (pc := 20) dX11_lowest_20 rfl (k := ?_)
    refine g_iload (M := mX11_lowest) (pc := 21) dX11_lowest_21 rfl (k := ?_)
    refine g_idiv (M := mX11_lowest) (pc := 23) (by omega) (by omega) (by omega) dX11_lowest_23 (k := ?_)
    have hz23 := tdivG (a := b) (b := r3) (by omega)
    refine g_i2l (M := mX11_lowest) (pc := 24) (by omega) dX11_lowest_24 (k := ?_)
    refine g_lret (M := mX11_lowest) (pc := 25) rfl dX11_lowest_25 rfl ⟨_, _, rfl, rfl, ?_⟩
    refine ⟨?_, rfl⟩
    · omega
  · skip
    refine g_iload_n (M := mX11_lowest) (pc := 12) dX11_lowest_12 rfl (k := ?_)
    refine g_iload (M := mX11_lowest) (pc := 13) dX11_lowest_13 rfl (k := ?_)
    refine g_idiv (M := mX11_lowest) (pc := 15) (by omega) (by omega) (by omega) dX11_lowest_15 (k := ?_)
    have hz15 := tdivG (a := a) (b := r3) (by omega)
    refine g_i2l (M := mX11_lowest) (pc := 16) (by omega) dX11_lowest_16 (k := ?_)
    refine g_goto (M := mX11_lowest) (pc := 17) (tgt := 25) dX11_lowest_17 (k := ?_)
    refine g_lret (M := mX11_lowest) (pc := 25) rfl dX11_lowest_25 rfl ⟨_, _, rfl, rfl, ?_⟩
    refine ⟨?_, rfl⟩
    · omega
set_option maxHeartbeats 4000000 in
set_option maxRecDepth 20000 in
theorem c_X11_odds (Γ : KT) (t : Nat) (σ : Nat → Int → Int) (f : Int) (h : Int) (p : Int) (hI : InvJ σ) (hS : JS σ) (hf : R32 f) (hh : R32 h) (hp : R32 p) : Ct Γ mX11_odds 7 (0, 0) [vR Γ 69, vI f, vI h, vI p] (113, ρT t, σ) (pL 113 (ρT t) (fun r σ' => (R64 r) ∧ (InvJ σ') ∧ (Fr scJ σ σ'))) := by
  refine Ct.of rfl (Nat.le_of_ble_eq_true rfl) ?_
  show G Γ mX11_odds 7 (0, 0) _ (0, 0) 0 [some (vR Γ 69), some (vI f), some (vI h), some (vI p), none, none] [] (113, ρT t, σ)
  refine g_aload_n (M := mX11_odds) (pc := 0) dX11_odds_0 rfl (k := ?_)
  refine g_iload_n (M := mX11_odds) (pc := 1) dX11_odds_1 rfl (k := ?_)
  refine g_cV1I (M := mX11_odds) (pc := 2) (c_X11_isFolk Γ t _ _ hI (by omega)) qX11_isFolk vX11_isFolk sX11_isFolk kX11_236 dX11_odds_2 (kk := ?_)
  rintro _ _ ⟨e1, e⟩; rw [e1, e]; clear e1 e
  have hb2_69 := jv69_1 hI 1 (by omega) (by omega)
  refine g_if_eqB (M := mX11_odds) (pc := 5) (tgt := 26) dX11_odds_5 (k1 := fun h5 => ?_) (k2 := fun h5 => ?_)
  · skip
    refine g_ldc2 (M := mX11_odds) (pc := 26) (x := -9223372036854775808) kX11_364 dX11_odds_26 (k := ?_)
    refine g_lret (M := mX11_odds) (pc := 29) rfl dX11_odds_29 rfl ⟨_, _, rfl, rfl, ?_⟩
    refine ⟨?_, ?_, ?_⟩
    · omega
    · exact hI
    · exact (Fr.rf)
  · skip
    refine g_aload_n (M := mX11_odds) (pc := 8) dX11_odds_8 rfl (k := ?_)
    refine g_iload_n (M := mX11_odds) (pc := 9) dX11_odds_9 rfl (k := ?_)
    refine g_cV1I (M := mX11_odds) (pc := 10) (c_X11_isHouse Γ t _ _ hI (by omega)) qX11_isHouse vX11_isHouse sX11_isHouse kX11_232 dX11_odds_10 (kk := ?_)
    rintro _ _ ⟨e1, e⟩; rw [e1, e]; clear e1 e
    have hb10_69 := jv69_0 hI 0 (by omega) (by omega)
    refine g_if_eqB (M := mX11_odds) (pc := 13) (tgt := 26) dX11_odds_13 (k1 := fun h13 => ?_) (k2 := fun h13 => ?_)
    · skip
      refine g_ldc2 (M := mX11_odds) (pc := 26) (x := -9223372036854775808) kX11_364 dX11_odds_26 (k := ?_)
      refine g_lret (M := mX11_odds) (pc := 29) rfl dX11_odds_29 rfl ⟨_, _, rfl, rfl, ?_⟩
      refine ⟨?_, ?_, ?_⟩
      · omega
      · exact hI
      · exact (Fr.rf)
    · skip
      refine g_aload_n (M := mX11_odds) (pc := 16) dX11_odds_16 rfl (k := ?_)
      refine g_iload_n (M := mX11_odds) (pc := 17) dX11_odds_17 rfl (k := ?_)
      refine g_iconst (M := mX11_odds) (pc := 18) dX11_odds_18 (k := ?_)
      refine g_iconst (M := mX11_odds) (pc := 19) dX11_odds_19 (k := ?_)
      refine g_cV3I (M := mX11_odds) (pc := 20) (c_X11_in Γ t _ _ _ _ (by omega) (by omega) (by omega)) qX11_in vX11_in sX11_in kX11_224 dX11_odds_20 (kk := ?_)
      rintro _ _ ⟨e1, e⟩; rw [e1, e]; clear e1 e
      refine g_if_neB (M := mX11_odds) (pc := 23) (tgt := 30) dX11_odds_23 (k1 := fun h23 => ?_) (k2 := fun h23 => ?_)
      · skip
        refine g_iconst (M := mX11_odds) (pc := 30) dX11_odds_30 (k := ?_)
        refine g_istore_4 (M := mX11_odds) (pc := 31) dX11_odds_31 (k := ?_)
        refine g_iconst (M := mX11_odds) (pc := 33) dX11_odds_33 (k := ?_)
        refine g_istore_5 (M := mX11_odds) (pc := 34) dX11_odds_34 (k := ?_)
        have loop36 : ∀ (N : Nat) (τ36 : Nat → Int → Int) (n : Int) (m : Int), ((61 - m).toNat) < N → ((InvJ τ36) ∧ (Fr scJ σ τ36) ∧ (0 ≤ n ∧ n ≤ m) ∧ (0 ≤ m ∧ m ≤ 60)) → G Γ mX11_odds 7 (0, 0) (pL 113 (ρT t) (fun r σ' => (R64 r) ∧ (InvJ σ') ∧ (Fr scJ σ σ'))) (0, 0) 36 [some (vR Γ 69), some (vI f), some (vI h), some (vI p), some (vI n), some (vI m)] [] (113, ρT t, τ36) := by
          intro N
          induction N with
          | zero => intro τ36 n m hmu36 hinv36; exact absurd hmu36 (Nat.not_lt_zero _)
          | succ N ih36 =>
            intro τ36 n m hmu36 hinv36
            obtain ⟨hI36, hF36, hb36_n, hb36_m⟩ := hinv36
            have he36_69_1 := hF36 69 1 rfl
            refine g_iload (M := mX11_odds) (pc := 36) dX11_odds_36 rfl (k := ?_)
            refine g_bipush (M := mX11_odds) (pc := 38) dX11_odds_38 (k := ?_)
            refine g_icmp_ge (M := mX11_odds) (pc := 40) (tgt := 70) (by omega) (by omega) dX11_odds_40 (k1 := fun h40 => ?_) (k2 := fun h40 => ?_)
            · skip
              refine g_aload_n (M := mX11_odds) (pc := 70) dX11_odds_70 rfl (k := ?_)
              refine g_iload (M := mX11_odds) (pc := 71) dX11_odds_71 rfl (k := ?_)
              refine g_bipush (M := mX11_odds) (pc := 73) dX11_odds_73 (k := ?_)
              refine g_iload_n (M := mX11_odds) (pc := 75) dX11_odds_75 rfl (k := ?_)
              refine g_cV3L (M := mX11_odds) (pc := 76) (c_X11_lowest Γ t _ _ _ _ (by omega) (by omega) (by omega)) qX11_lowest vX11_lowest sX11_lowest kX11_366 dX11_odds_76 (kk := ?_)
              rintro r76 _ ⟨hi76, e⟩; rw [e]; clear e
              refine g_lret (M := mX11_odds) (pc := 79) rfl dX11_odds_79 rfl ⟨_, _, rfl, rfl, ?_⟩
              refine ⟨?_, ?_, ?_⟩
              · omega
              · exact hI36
              · exact hF36
            · skip
              refine g_iload (M := mX11_odds) (pc := 43) dX11_odds_43 rfl (k := ?_)
              refine g_aload_n (M := mX11_odds) (pc := 45) dX11_odds_45 rfl (k := ?_)
              refine g_iload_n (M := mX11_odds) (pc := 46) dX11_odds_46 rfl (k := ?_)
              refine g_iload_n (M := mX11_odds) (pc := 47) dX11_odds_47 rfl (k := ?_)
              refine g_iload (M := mX11_odds) (pc := 48) dX11_odds_48 rfl (k := ?_)
              refine g_cV3I (M := mX11_odds) (pc := 50) (c_X11_comesIn Γ t _ _ _ _ hI36 (JS_fr hS (by exact Fr.mono hF36 sb_scJ_jNS)) (by omega) (by omega) (by omega)) qX11_comesIn vX11_comesIn sX11_comesIn kX11_343 dX11_odds_50 (kk := ?_)
              rintro r50 τ50 ⟨hi50, hm50, hI50, hG50⟩
              have hF50 : Fr scJ σ τ50 := by refine Fr.tr ?_ (Fr.mono hG50 sb_jcC_scJ); exact hF36
              refine g_if_eq (M := mX11_odds) (pc := 53) (tgt := 60) (by omega) dX11_odds_53 (k1 := fun h53 => ?_) (k2 := fun h53 => ?_)
              · skip
                refine g_iconst (M := mX11_odds) (pc := 60) dX11_odds_60 (k := ?_)
                refine g_iadd (M := mX11_odds) (pc := 61) dX11_odds_61 (k := ?_)
                refine g_istore_4 (M := mX11_odds) (pc := 62) dX11_odds_62 (k := ?_)
                refine g_iinc_5 (M := mX11_odds) (pc := 64) dX11_odds_64 (k := ?_)
                refine g_goto (M := mX11_odds) (pc := 67) (tgt := 36) dX11_odds_67 (k := ?_)
                refine ih36 _ _ _ ?_ ?_
                · omega
                · skip
                  refine ⟨?_, ?_, ?_, ?_⟩
                  · exact hI50
                  · exact hF50
                  · omega
                  · omega
              · skip
                refine g_iconst (M := mX11_odds) (pc := 56) dX11_odds_56 (k := ?_)
                refine g_goto (M := mX11_odds) (pc := 57) (tgt := 61) dX11_odds_57 (k := ?_)
                refine g_iadd (M := mX11_odds) (pc := 61) dX11_odds_61 (k := ?_)
                refine g_istore_4 (M := mX11_odds) (pc := 62) dX11_odds_62 (k := ?_)
                refine g_iinc_5 (M := mX11_odds) (pc := 64) dX11_odds_64 (k := ?_)
                refine g_goto (M := mX11_odds) (pc := 67) (tgt := 36) dX11_odds_67 (k := ?_)
                refine ih36 _ _ _ ?_ ?_
                · omega
                · skip
                  refine ⟨?_, ?_, ?_, ?_⟩
                  · exact hI50
                  · exact hF50
                  · omega
                  · omega
        refine loop36 _ _ _ _ (Nat.lt_succ_self _) ?_
        refine ⟨?_, ?_, ?_, ?_⟩
        · exact hI
        · exact (Fr.rf)
        · omega
        · omega
      · skip
        refine g_ldc2 (M := mX11_odds) (pc := 26) (x := -9223372036854775808) kX11_364 dX11_odds_26 (k := ?_)
        refine g_lret (M := mX11_odds) (pc := 29) rfl dX11_odds_29 rfl ⟨_, _, rfl, rfl, ?_⟩
        refine ⟨?_, ?_, ?_⟩
        · omega
        · exact hI
        · exact (Fr.rf)
set_option maxHeartbeats 4000000 in
set_option maxRecDepth 20000 in
theorem c_X11_mean (Γ : KT) (t : Nat) (σ : Nat → Int → Int) (h : Int) (p : Int) (hI : InvJ σ) (hS : JS σ) (hh : R32 h) (hp : R32 p) : Ct Γ mX11_mean 7 (0, 0) [vR Γ 69, vI h, vI p] (113, ρT t, σ) (pL 113 (ρT t) (fun r σ' => (R64 r) ∧ (InvJ σ') ∧ (Fr scJ σ σ'))) := by
  refine Ct.of rfl (Nat.le_of_ble_eq_true rfl) ?_
  show G Γ mX11_mean 7 (0, 0) _ (0, 0) 0 [some (vR Γ 69), some (vI h), some (vI p), none, none, none] [] (113, ρT t, σ)
  refine g_aload_n (M := mX11_mean) (pc := 0) dX11_mean_0 rfl (k := ?_)
  refine g_iload_n (M := mX11_mean) (pc := 1) dX11_mean_1 rfl (k := ?_)
  refine g_cV1I (M := mX11_mean) (pc := 2) (c_X11_isHouse Γ t _ _ hI (by omega)) qX11_isHouse vX11_isHouse sX11_isHouse kX11_232 dX11_mean_2 (kk := ?_)
  rintro _ _ ⟨e1, e⟩; rw [e1, e]; clear e1 e
  have hb2_69 := jv69_0 hI 0 (by omega) (by omega)
  refine g_if_eqB (M := mX11_mean) (pc := 5) (tgt := 25) dX11_mean_5 (k1 := fun h5 => ?_) (k2 := fun h5 => ?_)
  · skip
    refine g_ldc2 (M := mX11_mean) (pc := 25) (x := -9223372036854775808) kX11_364 dX11_mean_25 (k := ?_)
    refine g_lret (M := mX11_mean) (pc := 28) rfl dX11_mean_28 rfl ⟨_, _, rfl, rfl, ?_⟩
    refine ⟨?_, ?_, ?_⟩
    · omega
    · exact hI
    · exact (Fr.rf)
  · skip
    refine g_aload_n (M := mX11_mean) (pc := 8) dX11_mean_8 rfl (k := ?_)
    refine g_iload_n (M := mX11_mean) (pc := 9) dX11_mean_9 rfl (k := ?_)
    refine g_iconst (M := mX11_mean) (pc := 10) dX11_mean_10 (k := ?_)
    refine g_iconst (M := mX11_mean) (pc := 11) dX11_mean_11 (k := ?_)
    refine g_cV3I (M := mX11_mean) (pc := 12) (c_X11_in Γ t _ _ _ _ (by omega) (by omega) (by omega)) qX11_in vX11_in sX11_in kX11_224 dX11_mean_12 (kk := ?_)
    rintro _ _ ⟨e1, e⟩; rw [e1, e]; clear e1 e
    refine g_if_eqB (M := mX11_mean) (pc := 15) (tgt := 25) dX11_mean_15 (k1 := fun h15 => ?_) (k2 := fun h15 => ?_)
    · skip
      refine g_ldc2 (M := mX11_mean) (pc := 25) (x := -9223372036854775808) kX11_364 dX11_mean_25 (k := ?_)
      refine g_lret (M := mX11_mean) (pc := 28) rfl dX11_mean_28 rfl ⟨_, _, rfl, rfl, ?_⟩
      refine ⟨?_, ?_, ?_⟩
      · omega
      · exact hI
      · exact (Fr.rf)
    · skip
      refine g_aload_n (M := mX11_mean) (pc := 18) dX11_mean_18 rfl (k := ?_)
      refine g_get (M := mX11_mean) (pc := 19) (ji := 1) (by rfl) fX11_1 kX11_13 dX11_mean_19 (kk := fun hr19 => ?_)
      have hb19 := jv69_1 hI 1 (by omega) (by omega)
      refine g_if_ne (M := mX11_mean) (pc := 22) (tgt := 29) (by omega) dX11_mean_22 (k1 := fun h22 => ?_) (k2 := fun h22 => ?_)
      · skip
        refine g_iconst (M := mX11_mean) (pc := 29) dX11_mean_29 (k := ?_)
        refine g_istore_3 (M := mX11_mean) (pc := 30) dX11_mean_30 (k := ?_)
        refine g_iconst (M := mX11_mean) (pc := 31) dX11_mean_31 (k := ?_)
        refine g_istore_4 (M := mX11_mean) (pc := 32) dX11_mean_32 (k := ?_)
        have loop34 : ∀ (N : Nat) (τ34 : Nat → Int → Int) (su : Int) (q : Int), ((5 - q).toNat) < N → ((InvJ τ34) ∧ (Fr scJ σ τ34) ∧ (0 ≤ su ∧ su ≤ 103100 * q) ∧ (0 ≤ q ∧ q ≤ 4)) → G Γ mX11_mean 7 (0, 0) (pL 113 (ρT t) (fun r σ' => (R64 r) ∧ (InvJ σ') ∧ (Fr scJ σ σ'))) (0, 0) 34 [some (vR Γ 69), some (vI h), some (vI p), some (vI su), some (vI q), none] [] (113, ρT t, τ34) := by
          intro N
          induction N with
          | zero => intro τ34 su q hmu34 hinv34; exact absurd hmu34 (Nat.not_lt_zero _)
          | succ N ih34 =>
            intro τ34 su q hmu34 hinv34
            obtain ⟨hI34, hF34, hb34_su, hb34_q⟩ := hinv34
            have he34_69_1 := hF34 69 1 rfl
            refine g_iload (M := mX11_mean) (pc := 34) dX11_mean_34 rfl (k := ?_)
            refine g_aload_n (M := mX11_mean) (pc := 36) dX11_mean_36 rfl (k := ?_)
            refine g_get (M := mX11_mean) (pc := 37) (ji := 1) (by rfl) fX11_1 kX11_13 dX11_mean_37 (kk := fun hr37 => ?_)
            have hb37 := jv69_1 hI34 1 (by omega) (by omega)
            refine g_icmp_ge (M := mX11_mean) (pc := 40) (tgt := 66) (by omega) (by omega) dX11_mean_40 (k1 := fun h40 => ?_) (k2 := fun h40 => ?_)
            · skip
              refine g_aload_n (M := mX11_mean) (pc := 66) dX11_mean_66 rfl (k := ?_)
              refine g_iload_n (M := mX11_mean) (pc := 67) dX11_mean_67 rfl (k := ?_)
              refine g_aload_n (M := mX11_mean) (pc := 68) dX11_mean_68 rfl (k := ?_)
              refine g_get (M := mX11_mean) (pc := 69) (ji := 1) (by rfl) fX11_1 kX11_13 dX11_mean_69 (kk := fun hr69 => ?_)
              refine g_iload_n (M := mX11_mean) (pc := 72) dX11_mean_72 rfl (k := ?_)
              refine g_cV3L (M := mX11_mean) (pc := 73) (c_X11_lowest Γ t _ _ _ _ (by omega) (by omega) (by omega)) qX11_lowest vX11_lowest sX11_lowest kX11_366 dX11_mean_73 (kk := ?_)
              rintro r73 _ ⟨hi73, e⟩; rw [e]; clear e
              refine g_lret (M := mX11_mean) (pc := 76) rfl dX11_mean_76 rfl ⟨_, _, rfl, rfl, ?_⟩
              refine ⟨?_, ?_, ?_⟩
              · omega
              · exact hI34
              · exact hF34
            · skip
              refine g_aload_n (M := mX11_mean) (pc := 43) dX11_mean_43 rfl (k := ?_)
              refine g_iload (M := mX11_mean) (pc := 44) dX11_mean_44 rfl (k := ?_)
              refine g_iload_n (M := mX11_mean) (pc := 46) dX11_mean_46 rfl (k := ?_)
              refine g_iconst (M := mX11_mean) (pc := 47) dX11_mean_47 (k := ?_)
              refine g_cV3I (M := mX11_mean) (pc := 48) (c_X11_comesIn Γ t _ _ _ _ hI34 (JS_fr hS (by exact Fr.mono hF34 sb_scJ_jNS)) (by omega) (by omega) (by omega)) qX11_comesIn vX11_comesIn sX11_comesIn kX11_343 dX11_mean_48 (kk := ?_)
              rintro r48 τ48 ⟨hi48, hm48, hI48, hG48⟩
              have hF48 : Fr scJ σ τ48 := by refine Fr.tr ?_ (Fr.mono hG48 sb_jcC_scJ); exact hF34
              refine g_istore_5 (M := mX11_mean) (pc := 51) dX11_mean_51 (k := ?_)
              refine g_iload_n (M := mX11_mean) (pc := 53) dX11_mean_53 rfl (k := ?_)
              refine g_aload_n (M := mX11_mean) (pc := 54) dX11_mean_54 rfl (k := ?_)
              refine g_get (M := mX11_mean) (pc := 55) (ji := 29) (by rfl) fX11_29 kX11_99 dX11_mean_55 (kk := fun hr55 => ?_)
              have hb55 := jv69_29 hI48 29 (by omega) (by omega)
              refine g_iadd (M := mX11_mean) (pc := 58) dX11_mean_58 (k := ?_)
              refine g_istore_3 (M := mX11_mean) (pc := 59) dX11_mean_59 (k := ?_)
              refine g_iinc_4 (M := mX11_mean) (pc := 60) dX11_mean_60 (k := ?_)
              refine g_goto (M := mX11_mean) (pc := 63) (tgt := 34) dX11_mean_63 (k := ?_)
              refine g_less (leL_s (leL_s (leL_s (leL_s (leL_s (leL_n leL_0)))))) ?_
              refine ih34 _ _ _ ?_ ?_
              · omega
              · skip
                refine ⟨?_, ?_, ?_, ?_⟩
                · exact hI48
                · exact hF48
                · omega
                · omega
        refine loop34 _ _ _ _ (Nat.lt_succ_self _) ?_
        refine ⟨?_, ?_, ?_, ?_⟩
        · exact hI
        · exact (Fr.rf)
        · omega
        · omega
      · skip
        refine g_ldc2 (M := mX11_mean) (pc := 25) (x := -9223372036854775808) kX11_364 dX11_mean_25 (k := ?_)
        refine g_lret (M := mX11_mean) (pc := 28) rfl dX11_mean_28 rfl ⟨_, _, rfl, rfl, ?_⟩
        refine ⟨?_, ?_, ?_⟩
        · omega
        · exact hI
        · exact (Fr.rf)
set_option maxHeartbeats 4000000 in
set_option maxRecDepth 20000 in
theorem c_X11_looked (Γ : KT) (t : Nat) (σ : Nat → Int → Int)  (hI : InvJ σ) (hS : JS σ) : Ct Γ mX11_looked 7 (0, 0) [vR Γ 69] (113, ρT t, σ) (pI 113 (ρT t) (fun r σ' => (-5 ≤ r ∧ r ≤ 12) ∧ (InvJ σ') ∧ (Fr scJ σ σ'))) := by
  refine Ct.of rfl (Nat.le_of_ble_eq_true rfl) ?_
  show G Γ mX11_looked 7 (0, 0) _ (0, 0) 0 [some (vR Γ 69), none] [] (113, ρT t, σ)
  refine g_iconst (M := mX11_looked) (pc := 0) dX11_looked_0 (k := ?_)
  refine g_istore_1 (M := mX11_looked) (pc := 1) dX11_looked_1 (k := ?_)
  have loop2 : ∀ (N : Nat) (τ2 : Nat → Int → Int) (q : Int), ((13 - q).toNat) < N → ((InvJ τ2) ∧ (Fr scJ σ τ2) ∧ (0 ≤ q ∧ q ≤ 12)) → G Γ mX11_looked 7 (0, 0) (pI 113 (ρT t) (fun r σ' => (-5 ≤ r ∧ r ≤ 12) ∧ (InvJ σ') ∧ (Fr scJ σ σ'))) (0, 0) 2 [some (vR Γ 69), some (vI q)] [] (113, ρT t, τ2) := by
    intro N
    induction N with
    | zero => intro τ2 q hmu2 hinv2; exact absurd hmu2 (Nat.not_lt_zero _)
    | succ N ih2 =>
      intro τ2 q hmu2 hinv2
      obtain ⟨hI2, hF2, hb2_q⟩ := hinv2
      refine g_iload_n (M := mX11_looked) (pc := 2) dX11_looked_2 rfl (k := ?_)
      refine g_aload_n (M := mX11_looked) (pc := 3) dX11_looked_3 rfl (k := ?_)
      refine g_get (M := mX11_looked) (pc := 4) (ji := 41) (by rfl) fX11_41 kX11_135 dX11_looked_4 (kk := fun hr4 => ?_)
      have hb4 := jv69_41 hI2 41 (by omega) (by omega)
      refine g_icmp_ge (M := mX11_looked) (pc := 7) (tgt := 38) (by omega) (by omega) dX11_looked_7 (k1 := fun h7 => ?_) (k2 := fun h7 => ?_)
      · skip
        refine g_bipush (M := mX11_looked) (pc := 38) dX11_looked_38 (k := ?_)
        refine g_iret (M := mX11_looked) (pc := 40) rfl dX11_looked_40 rfl ⟨_, _, rfl, rfl, ?_⟩
        refine ⟨?_, ?_, ?_⟩
        · omega
        · exact hI2
        · exact hF2
      · skip
        refine g_aload_n (M := mX11_looked) (pc := 10) dX11_looked_10 rfl (k := ?_)
        refine g_aload_n (M := mX11_looked) (pc := 11) dX11_looked_11 rfl (k := ?_)
        refine g_getr (M := mX11_looked) (pc := 12) (by rfl) fX11_42 kX11_138 dX11_looked_12 (by rfl) (kk := ?_)
        refine g_iload_n (M := mX11_looked) (pc := 15) dX11_looked_15 rfl (k := ?_)
        refine g_iald (M := mX11_looked) (pc := 16) (by rfl) (by omega) (by omega) dX11_looked_16 (kk := fun hr16 => ?_)
        have hb16 := jv93_0 hI2 q (by omega) (by omega)
        refine g_aload_n (M := mX11_looked) (pc := 17) dX11_looked_17 rfl (k := ?_)
        refine g_getr (M := mX11_looked) (pc := 18) (by rfl) fX11_43 kX11_141 dX11_looked_18 (by rfl) (kk := ?_)
        refine g_iload_n (M := mX11_looked) (pc := 21) dX11_looked_21 rfl (k := ?_)
        refine g_iald (M := mX11_looked) (pc := 22) (by rfl) (by omega) (by omega) dX11_looked_22 (kk := fun hr22 => ?_)
        have hb22 := jv94_0 hI2 q (by omega) (by omega)
        refine g_iconst (M := mX11_looked) (pc := 23) dX11_looked_23 (k := ?_)
        have hb24 := JS_b (JS_fr hS (Fr.mono hF2 sb_scJ_jNS)) (k := q) (by omega) (by omega)
        refine g_cV3I (M := mX11_looked) (pc := 24) (c_X11_comesIn Γ t _ _ _ _ hI2 (JS_fr hS (by exact Fr.mono hF2 sb_scJ_jNS)) (by omega) (by omega) (by omega)) qX11_comesIn vX11_comesIn sX11_comesIn kX11_343 dX11_looked_24 (kk := ?_)
        rintro r24 τ24 ⟨hi24, hm24, hI24, hG24⟩
        have hF24 : Fr scJ σ τ24 := by refine Fr.tr ?_ (Fr.mono hG24 sb_jcC_scJ); exact hF2
        refine g_if_ne (M := mX11_looked) (pc := 27) (tgt := 32) (by omega) dX11_looked_27 (k1 := fun h27 => ?_) (k2 := fun h27 => ?_)
        · skip
          refine g_iinc_1 (M := mX11_looked) (pc := 32) dX11_looked_32 (k := ?_)
          refine g_goto (M := mX11_looked) (pc := 35) (tgt := 2) dX11_looked_35 (k := ?_)
          refine ih2 _ _ ?_ ?_
          · omega
          · skip
            refine ⟨?_, ?_, ?_⟩
            · exact hI24
            · exact hF24
            · omega
        · skip
          refine g_iload_n (M := mX11_looked) (pc := 30) dX11_looked_30 rfl (k := ?_)
          refine g_iret (M := mX11_looked) (pc := 31) rfl dX11_looked_31 rfl ⟨_, _, rfl, rfl, ?_⟩
          refine ⟨?_, ?_, ?_⟩
          · omega
          · exact hI24
          · exact hF24
  refine loop2 _ _ _ (Nat.lt_succ_self _) ?_
  refine ⟨?_, ?_, ?_⟩
  · exact hI
  · exact (Fr.rf)
  · omega
set_option maxHeartbeats 4000000 in
set_option maxRecDepth 20000 in
theorem c_X11_judge (Γ : KT) (t : Nat) (σ : Nat → Int → Int) (tp : Int) (i : Int) (hI : InvJ σ) (htp : R32 tp) (hi : R32 i) : Ct Γ mX11_judge 3 (0, 0) [vR Γ 69, vI tp, vI i] (113, ρT t, σ) (pI 113 (ρT t) (fun r σ' => (R32 r) ∧ (judJ σ tp i r) ∧ σ' = σ)) := by
  refine Ct.of rfl (Nat.le_of_ble_eq_true rfl) ?_
  show G Γ mX11_judge 3 (0, 0) _ (0, 0) 0 [some (vR Γ 69), some (vI tp), some (vI i), none] [] (113, ρT t, σ)
  refine g_aload_n (M := mX11_judge) (pc := 0) dX11_judge_0 rfl (k := ?_)
  refine g_iload_n (M := mX11_judge) (pc := 1) dX11_judge_1 rfl (k := ?_)
  refine g_cV1I (M := mX11_judge) (pc := 2) (c_X11_isTape Γ t _ _ (by omega)) qX11_isTape vX11_isTape sX11_isTape kX11_370 dX11_judge_2 (kk := ?_)
  rintro _ _ ⟨e1, e⟩; rw [e1, e]; clear e1 e
  refine g_if_neB (M := mX11_judge) (pc := 5) (tgt := 10) dX11_judge_5 (k1 := fun h5 => ?_) (k2 := fun h5 => ?_)
  · skip
    refine g_aload_n (M := mX11_judge) (pc := 10) dX11_judge_10 rfl (k := ?_)
    refine g_getr (M := mX11_judge) (pc := 11) (by rfl) fX11_66 kX11_211 dX11_judge_11 (by rfl) (kk := ?_)
    refine g_iload_n (M := mX11_judge) (pc := 14) dX11_judge_14 rfl (k := ?_)
    refine g_iald (M := mX11_judge) (pc := 15) (by rfl) (by omega) (by omega) dX11_judge_15 (kk := fun hr15 => ?_)
    have hb15 := jv109_0 hI tp (by omega) (by omega)
    refine g_if_le (M := mX11_judge) (pc := 16) (tgt := 22) (by omega) dX11_judge_16 (k1 := fun h16 => ?_) (k2 := fun h16 => ?_)
    · skip
      refine g_iconst (M := mX11_judge) (pc := 22) dX11_judge_22 (k := ?_)
      refine g_istore_3 (M := mX11_judge) (pc := 23) dX11_judge_23 (k := ?_)
      have loop24 : ∀ (N : Nat) (q : Int), ((7 - q).toNat) < N → ((0 ≤ q ∧ q ≤ 6) ∧ (jdF (Int.toNat (σ 69 0 - q)) q (fitJ σ tp i) = jdF (Int.toNat (σ 69 0)) 0 (fitJ σ tp i))) → G Γ mX11_judge 3 (0, 0) (pI 113 (ρT t) (fun r σ' => (R32 r) ∧ (judJ σ tp i r) ∧ σ' = σ)) (0, 0) 24 [some (vR Γ 69), some (vI tp), some (vI i), some (vI q)] [] (113, ρT t, σ) := by
        intro N
        induction N with
        | zero => intro q hmu24 hinv24; exact absurd hmu24 (Nat.not_lt_zero _)
        | succ N ih24 =>
          intro q hmu24 hinv24
          obtain ⟨hb24_q, hx24_0⟩ := hinv24
          refine g_iload_n (M := mX11_judge) (pc := 24) dX11_judge_24 rfl (k := ?_)
          refine g_aload_n (M := mX11_judge) (pc := 25) dX11_judge_25 rfl (k := ?_)
          refine g_get (M := mX11_judge) (pc := 26) (ji := 0) (by rfl) fX11_0 kX11_7 dX11_judge_26 (kk := fun hr26 => ?_)
          have hb26 := jv69_0 hI 0 (by omega) (by omega)
          refine g_icmp_ge (M := mX11_judge) (pc := 29) (tgt := 96) (by omega) (by omega) dX11_judge_29 (k1 := fun h29 => ?_) (k2 := fun h29 => ?_)
          · skip
            refine g_bipush (M := mX11_judge) (pc := 96) dX11_judge_96 (k := ?_)
            refine g_iret (M := mX11_judge) (pc := 98) rfl dX11_judge_98 rfl ⟨_, _, rfl, rfl, ?_⟩
            refine ⟨?_, ?_, rfl⟩
            · omega
            · unfold judJ; first | exact Or.inl ⟨by omega, rfl⟩ | exact Or.inr (Or.inl ⟨by omega, by omega, rfl⟩) | exact Or.inr (Or.inr ⟨by omega, by omega, by first | (rw [← hx24_0, jd_end (by omega)]) | (rw [← hx24_0, jd_here (by omega) (by unfold fitJ; rw [if_pos (by omega)]; omega)]; unfold fitJ; rw [if_pos (by omega)]) | (rw [← hx24_0, jd_here (by omega) (by unfold fitJ; rw [if_neg (by omega), if_neg (by omega)]; omega)]; unfold fitJ; rw [if_neg (by omega), if_neg (by omega)])⟩)
          · skip
            refine g_aload_n (M := mX11_judge) (pc := 32) dX11_judge_32 rfl (k := ?_)
            refine g_getr (M := mX11_judge) (pc := 33) (by rfl) fX11_66 kX11_211 dX11_judge_33 (by rfl) (kk := ?_)
            refine g_iload_n (M := mX11_judge) (pc := 36) dX11_judge_36 rfl (k := ?_)
            refine g_iald (M := mX11_judge) (pc := 37) (by rfl) (by omega) (by omega) dX11_judge_37 (kk := fun hr37 => ?_)
            refine g_if_lt (M := mX11_judge) (pc := 38) (tgt := 59) (by omega) dX11_judge_38 (k1 := fun h38 => ?_) (k2 := fun h38 => ?_)
            · skip
              refine g_bipush (M := mX11_judge) (pc := 59) dX11_judge_59 (k := ?_)
              refine g_iload_n (M := mX11_judge) (pc := 61) dX11_judge_61 rfl (k := ?_)
              refine g_iadd (M := mX11_judge) (pc := 62) dX11_judge_62 (k := ?_)
              refine g_iret (M := mX11_judge) (pc := 63) rfl dX11_judge_63 rfl ⟨_, _, rfl, rfl, ?_⟩
              refine ⟨?_, ?_, rfl⟩
              · omega
              · unfold judJ; first | exact Or.inl ⟨by omega, rfl⟩ | exact Or.inr (Or.inl ⟨by omega, by omega, rfl⟩) | exact Or.inr (Or.inr ⟨by omega, by omega, by first | (rw [← hx24_0, jd_end (by omega)]) | (rw [← hx24_0, jd_here (by omega) (by unfold fitJ; rw [if_pos (by omega)]; omega)]; unfold fitJ; rw [if_pos (by omega)]) | (rw [← hx24_0, jd_here (by omega) (by unfold fitJ; rw [if_neg (by omega), if_neg (by omega)]; omega)]; unfold fitJ; rw [if_neg (by omega), if_neg (by omega)])⟩)
            · skip
              refine g_iload_n (M := mX11_judge) (pc := 41) dX11_judge_41 rfl (k := ?_)
              refine g_if_lt (M := mX11_judge) (pc := 42) (tgt := 59) (by omega) dX11_judge_42 (k1 := fun h42 => ?_) (k2 := fun h42 => ?_)
              · skip
                refine g_bipush (M := mX11_judge) (pc := 59) dX11_judge_59 (k := ?_)
                refine g_iload_n (M := mX11_judge) (pc := 61) dX11_judge_61 rfl (k := ?_)
                refine g_iadd (M := mX11_judge) (pc := 62) dX11_judge_62 (k := ?_)
                refine g_iret (M := mX11_judge) (pc := 63) rfl dX11_judge_63 rfl ⟨_, _, rfl, rfl, ?_⟩
                refine ⟨?_, ?_, rfl⟩
                · omega
                · unfold judJ; first | exact Or.inl ⟨by omega, rfl⟩ | exact Or.inr (Or.inl ⟨by omega, by omega, rfl⟩) | exact Or.inr (Or.inr ⟨by omega, by omega, by first | (rw [← hx24_0, jd_end (by omega)]) | (rw [← hx24_0, jd_here (by omega) (by unfold fitJ; rw [if_pos (by omega)]; omega)]; unfold fitJ; rw [if_pos (by omega)]) | (rw [← hx24_0, jd_here (by omega) (by unfold fitJ; rw [if_neg (by omega), if_neg (by omega)]; omega)]; unfold fitJ; rw [if_neg (by omega), if_neg (by omega)])⟩)
              · skip
                refine g_iload_n (M := mX11_judge) (pc := 45) dX11_judge_45 rfl (k := ?_)
                refine g_aload_n (M := mX11_judge) (pc := 46) dX11_judge_46 rfl (k := ?_)
                refine g_getr (M := mX11_judge) (pc := 47) (by rfl) fX11_67 kX11_214 dX11_judge_47 (by rfl) (kk := ?_)
                refine g_iload_n (M := mX11_judge) (pc := 50) dX11_judge_50 rfl (k := ?_)
                refine g_iald (M := mX11_judge) (pc := 51) (by rfl) (by omega) (by omega) dX11_judge_51 (kk := fun hr51 => ?_)
                have hb51 := jv110_0 hI tp (by omega) (by omega)
                refine g_iload_n (M := mX11_judge) (pc := 52) dX11_judge_52 rfl (k := ?_)
                refine g_isub (M := mX11_judge) (pc := 53) dX11_judge_53 (k := ?_)
                refine g_iconst (M := mX11_judge) (pc := 54) dX11_judge_54 (k := ?_)
                refine g_isub (M := mX11_judge) (pc := 55) dX11_judge_55 (k := ?_)
                refine g_icmp_le (M := mX11_judge) (pc := 56) (tgt := 64) (by omega) (by omega) dX11_judge_56 (k1 := fun h56 => ?_) (k2 := fun h56 => ?_)
                · skip
                  refine g_aload_n (M := mX11_judge) (pc := 64) dX11_judge_64 rfl (k := ?_)
                  refine g_getr (M := mX11_judge) (pc := 65) (by rfl) fX11_68 kX11_217 dX11_judge_65 (by rfl) (kk := ?_)
                  refine g_bipush (M := mX11_judge) (pc := 68) dX11_judge_68 (k := ?_)
                  refine g_iload_n (M := mX11_judge) (pc := 70) dX11_judge_70 rfl (k := ?_)
                  refine g_imul (M := mX11_judge) (pc := 71) dX11_judge_71 (k := ?_)
                  refine g_iload_n (M := mX11_judge) (pc := 72) dX11_judge_72 rfl (k := ?_)
                  refine g_iadd (M := mX11_judge) (pc := 73) dX11_judge_73 (k := ?_)
                  refine g_iload_n (M := mX11_judge) (pc := 74) dX11_judge_74 rfl (k := ?_)
                  refine g_iadd (M := mX11_judge) (pc := 75) dX11_judge_75 (k := ?_)
                  refine g_lald (M := mX11_judge) (pc := 76) (by rfl) (by omega) (by omega) dX11_judge_76 (kk := fun hr76 => ?_)
                  refine g_aload_n (M := mX11_judge) (pc := 77) dX11_judge_77 rfl (k := ?_)
                  refine g_getr (M := mX11_judge) (pc := 78) (by rfl) fX11_4 kX11_23 dX11_judge_78 (by rfl) (kk := ?_)
                  refine g_iload_n (M := mX11_judge) (pc := 81) dX11_judge_81 rfl (k := ?_)
                  refine g_iald (M := mX11_judge) (pc := 82) (by rfl) (by omega) (by omega) dX11_judge_82 (kk := fun hr82 => ?_)
                  have hb82 := jv72_0 hI q (by omega) (by omega)
                  refine g_i2l (M := mX11_judge) (pc := 83) (by omega) dX11_judge_83 (k := ?_)
                  refine g_lcmp2 (M := mX11_judge) (pc := 84) (by omega) (by omega) dX11_judge_84 (k := fun c84 hz84 => ?_)
                  refine g_if_eq (M := mX11_judge) (pc := 85) (tgt := 90) (by omega) dX11_judge_85 (k1 := fun h85 => ?_) (k2 := fun h85 => ?_)
                  · skip
                    refine g_iinc_3 (M := mX11_judge) (pc := 90) dX11_judge_90 (k := ?_)
                    refine g_goto (M := mX11_judge) (pc := 93) (tgt := 24) dX11_judge_93 (k := ?_)
                    refine ih24 _ ?_ ?_
                    · omega
                    · skip
                      refine ⟨?_, ?_⟩
                      · omega
                      · first | (rw [Int.sub_zero]; done) | exact (jd_step (by omega) (by unfold fitJ; rw [if_neg (by omega), if_pos (by omega)])).symm.trans hx24_0
                  · skip
                    refine g_iload_n (M := mX11_judge) (pc := 88) dX11_judge_88 rfl (k := ?_)
                    refine g_iret (M := mX11_judge) (pc := 89) rfl dX11_judge_89 rfl ⟨_, _, rfl, rfl, ?_⟩
                    refine ⟨?_, ?_, rfl⟩
                    · omega
                    · unfold judJ; first | exact Or.inl ⟨by omega, rfl⟩ | exact Or.inr (Or.inl ⟨by omega, by omega, rfl⟩) | exact Or.inr (Or.inr ⟨by omega, by omega, by first | (rw [← hx24_0, jd_end (by omega)]) | (rw [← hx24_0, jd_here (by omega) (by unfold fitJ; rw [if_pos (by omega)]; omega)]; unfold fitJ; rw [if_pos (by omega)]) | (rw [← hx24_0, jd_here (by omega) (by unfold fitJ; rw [if_neg (by omega), if_neg (by omega)]; omega)]; unfold fitJ; rw [if_neg (by omega), if_neg (by omega)])⟩)
                · skip
                  refine g_bipush (M := mX11_judge) (pc := 59) dX11_judge_59 (k := ?_)
                  refine g_iload_n (M := mX11_judge) (pc := 61) dX11_judge_61 rfl (k := ?_)
                  refine g_iadd (M := mX11_judge) (pc := 62) dX11_judge_62 (k := ?_)
                  refine g_iret (M := mX11_judge) (pc := 63) rfl dX11_judge_63 rfl ⟨_, _, rfl, rfl, ?_⟩
                  refine ⟨?_, ?_, rfl⟩
                  · omega
                  · unfold judJ; first | exact Or.inl ⟨by omega, rfl⟩ | exact Or.inr (Or.inl ⟨by omega, by omega, rfl⟩) | exact Or.inr (Or.inr ⟨by omega, by omega, by first | (rw [← hx24_0, jd_end (by omega)]) | (rw [← hx24_0, jd_here (by omega) (by unfold fitJ; rw [if_pos (by omega)]; omega)]; unfold fitJ; rw [if_pos (by omega)]) | (rw [← hx24_0, jd_here (by omega) (by unfold fitJ; rw [if_neg (by omega), if_neg (by omega)]; omega)]; unfold fitJ; rw [if_neg (by omega), if_neg (by omega)])⟩)
      refine loop24 _ _ (Nat.lt_succ_self _) ?_
      refine ⟨?_, ?_⟩
      · omega
      · first | (rw [Int.sub_zero]; done) | exact (jd_step (by omega) (by unfold fitJ; rw [if_neg (by omega), if_pos (by omega)])).symm.trans hx24_0
    · skip
      refine g_bipush (M := mX11_judge) (pc := 19) dX11_judge_19 (k := ?_)
      refine g_iret (M := mX11_judge) (pc := 21) rfl dX11_judge_21 rfl ⟨_, _, rfl, rfl, ?_⟩
      refine ⟨?_, ?_, rfl⟩
      · omega
      · unfold judJ; first | exact Or.inl ⟨by omega, rfl⟩ | exact Or.inr (Or.inl ⟨by omega, by omega, rfl⟩) | exact Or.inr (Or.inr ⟨by omega, by omega, by first | (rw [← hx24_0, jd_end (by omega)]) | (rw [← hx24_0, jd_here (by omega) (by unfold fitJ; rw [if_pos (by omega)]; omega)]; unfold fitJ; rw [if_pos (by omega)]) | (rw [← hx24_0, jd_here (by omega) (by unfold fitJ; rw [if_neg (by omega), if_neg (by omega)]; omega)]; unfold fitJ; rw [if_neg (by omega), if_neg (by omega)])⟩)
  · skip
    refine g_iconst (M := mX11_judge) (pc := 8) dX11_judge_8 (k := ?_)
    refine g_iret (M := mX11_judge) (pc := 9) rfl dX11_judge_9 rfl ⟨_, _, rfl, rfl, ?_⟩
    refine ⟨?_, ?_, rfl⟩
    · omega
    · unfold judJ; first | exact Or.inl ⟨by omega, rfl⟩ | exact Or.inr (Or.inl ⟨by omega, by omega, rfl⟩) | exact Or.inr (Or.inr ⟨by omega, by omega, by first | (rw [← hx24_0, jd_end (by omega)]) | (rw [← hx24_0, jd_here (by omega) (by unfold fitJ; rw [if_pos (by omega)]; omega)]; unfold fitJ; rw [if_pos (by omega)]) | (rw [← hx24_0, jd_here (by omega) (by unfold fitJ; rw [if_neg (by omega), if_neg (by omega)]; omega)]; unfold fitJ; rw [if_neg (by omega), if_neg (by omega)])⟩)
