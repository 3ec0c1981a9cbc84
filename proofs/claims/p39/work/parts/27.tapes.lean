set_option maxHeartbeats 4000000 in
set_option maxRecDepth 20000 in
theorem c_J7_fill_d0a16 (Γ : KT) (t : Nat) (σ : Nat → Int → Int) (m : Int) (v : Int) (hI : InvX σ) (hm : 0 ≤ m ∧ m < 6) (hv : R64 v) : Ct Γ mJ7_fill_d0a16 1 (0, 0) [vR Γ (25 + Int.toNat m), vL v] (113, ρT t, σ) (pV 113 (ρT t) (fun σ' => (∀ j, 0 ≤ j → j < 60 → σ' (25 + Int.toNat m) j = v) ∧ (∀ k j, k ≠ 25 + Int.toNat m → σ' k j = σ k j) ∧ (InvX σ') ∧ (Fr scI σ σ'))) := by
  refine Ct.of rfl (Nat.le_of_ble_eq_true rfl) ?_
  show G Γ mJ7_fill_d0a16 1 (0, 0) _ (0, 0) 0 [some (vR Γ (25 + Int.toNat m)), some (vL v), none, none, none] [] (113, ρT t, σ)
  refine g_iconst (M := mJ7_fill_d0a16) (pc := 0) dJ7_fill_d0a16_0 (k := ?_)
  refine g_istore_3 (M := mJ7_fill_d0a16) (pc := 1) dJ7_fill_d0a16_1 (k := ?_)
  refine g_aload_n (M := mJ7_fill_d0a16) (pc := 2) dJ7_fill_d0a16_2 rfl (k := ?_)
  refine g_alen (M := mJ7_fill_d0a16) (pc := 3) (shp_item hm.1 hm.2) (by decide) dJ7_fill_d0a16_3 (hk := by omega) (kk := ?_)
  refine g_istore_4 (M := mJ7_fill_d0a16) (pc := 4) dJ7_fill_d0a16_4 (k := ?_)
  have loop6 : ∀ (N : Nat) (τ6 : Nat → Int → Int) (q : Int), ((61 - q).toNat) < N → ((InvX τ6) ∧ (Fr scI σ τ6) ∧ (0 ≤ q ∧ q ≤ 60) ∧ (∀ j, 0 ≤ j → j < q → τ6 (25 + Int.toNat m) j = v) ∧ (∀ k j, k ≠ 25 + Int.toNat m → τ6 k j = σ k j)) → G Γ mJ7_fill_d0a16 1 (0, 0) (pV 113 (ρT t) (fun σ' => (∀ j, 0 ≤ j → j < 60 → σ' (25 + Int.toNat m) j = v) ∧ (∀ k j, k ≠ 25 + Int.toNat m → σ' k j = σ k j) ∧ (InvX σ') ∧ (Fr scI σ σ'))) (0, 0) 6 [some (vR Γ (25 + Int.toNat m)), some (vL v), none, some (vI q), some (vI 60)] [] (113, ρT t, τ6) := by
    intro N
    induction N with
    | zero => intro τ6 q hmu6 hinv6; exact absurd hmu6 (Nat.not_lt_zero _)
    | succ N ih6 =>
      intro τ6 q hmu6 hinv6
      obtain ⟨hI6, hF6, hb6_q, hx6_0, hx6_1⟩ := hinv6
      refine g_iload_n (M := mJ7_fill_d0a16) (pc := 6) dJ7_fill_d0a16_6 rfl (k := ?_)
      refine g_iload (M := mJ7_fill_d0a16) (pc := 7) dJ7_fill_d0a16_7 rfl (k := ?_)
      refine g_icmp_ge (M := mJ7_fill_d0a16) (pc := 9) (tgt := 22) (by omega) (by omega) dJ7_fill_d0a16_9 (k1 := fun h9 => ?_) (k2 := fun h9 => ?_)
      · skip
        refine g_vret (M := mJ7_fill_d0a16) (pc := 22) rfl dJ7_fill_d0a16_22 rfl ⟨_, rfl, rfl, ?_⟩
        refine ⟨?_, ?_, ?_, ?_⟩
        · intro j h0 h1; exact hx6_0 j h0 (by omega)
        · exact hx6_1
        · exact hI6
        · exact hF6
      · skip
        refine g_aload_n (M := mJ7_fill_d0a16) (pc := 12) dJ7_fill_d0a16_12 rfl (k := ?_)
        refine g_iload_n (M := mJ7_fill_d0a16) (pc := 13) dJ7_fill_d0a16_13 rfl (k := ?_)
        refine g_lload_n (M := mJ7_fill_d0a16) (pc := 14) dJ7_fill_d0a16_14 rfl (k := ?_)
        refine g_last (M := mJ7_fill_d0a16) (pc := 15) (shp_item hm.1 hm.2) (by omega) (by omega) (by omega) dJ7_fill_d0a16_15 (hk := by omega) (kk := ?_)
        refine g_iinc_3 (M := mJ7_fill_d0a16) (pc := 16) dJ7_fill_d0a16_16 (k := ?_)
        refine g_goto (M := mJ7_fill_d0a16) (pc := 19) (tgt := 6) dJ7_fill_d0a16_19 (k := ?_)
        refine ih6 _ _ ?_ ?_
        · omega
        · skip
          refine ⟨?_, ?_, ?_, ?_, ?_⟩
          · refine iv_cellV ?_ (by first | omega | decide); exact hI6
          · refine Fr.up ?_ (by first | rfl | (unfold scI; simp; try omega)); exact hF6
          · omega
          · first | (intro j h0 h1; exfalso; omega) | (intro j h0 h1; by_cases e : j = q; exact (by rw [e]; exact up_same); rw [up_slot e]; exact hx6_0 j h0 (by omega))
          · intro k j hk; first | rfl | (rw [up_cell hk]; exact hx6_1 k j hk)
  refine loop6 _ _ _ (Nat.lt_succ_self _) ?_
  refine ⟨?_, ?_, ?_, ?_, ?_⟩
  · exact hI
  · exact (Fr.rf)
  · omega
  · first | (intro j h0 h1; exfalso; omega) | (intro j h0 h1; by_cases e : j = q; exact (by rw [e]; exact up_same); rw [up_slot e]; exact hx6_0 j h0 (by omega))
  · intro k j hk; first | rfl | (rw [up_cell hk]; exact hx6_1 k j hk)
set_option maxHeartbeats 4000000 in
set_option maxRecDepth 20000 in
theorem c_X6_become (Γ : KT) (t : Nat) (σ : Nat → Int → Int) (tp : Int) (s : Int) (n : Int) (hI : InvX σ) (ht : 0 ≤ tp ∧ tp < 6) (hs : -1 ≤ s ∧ s ≤ 4) (hn : 0 ≤ n ∧ n ≤ 60) : Ct Γ mX6_become 2 (0, 0) [vR Γ 23, vI tp, vI s, vI n] (113, ρT t, σ) (pI 113 (ρT t) (fun r σ' => (r = 1) ∧ (becX σ tp s n σ') ∧ (InvX σ') ∧ (Fr scTp σ σ'))) := by
  refine Ct.of rfl (Nat.le_of_ble_eq_true rfl) ?_
  show G Γ mX6_become 2 (0, 0) _ (0, 0) 0 [some (vR Γ 23), some (vI tp), some (vI s), some (vI n)] [] (113, ρT t, σ)
  refine g_aload_n (M := mX6_become) (pc := 0) dX6_become_0 rfl (k := ?_)
  refine g_getr (M := mX6_become) (pc := 1) (by rfl) fX6_2 kX6_20 dX6_become_1 (by rfl) (kk := ?_)
  refine g_iload_n (M := mX6_become) (pc := 4) dX6_become_4 rfl (k := ?_)
  refine g_iload_n (M := mX6_become) (pc := 5) dX6_become_5 rfl (k := ?_)
  refine g_iast (M := mX6_become) (pc := 6) (by rfl) (by omega) (by omega) (by omega) dX6_become_6 (kk := ?_)
  refine g_aload_n (M := mX6_become) (pc := 7) dX6_become_7 rfl (k := ?_)
  refine g_getr (M := mX6_become) (pc := 8) (by rfl) fX6_1 kX6_16 dX6_become_8 (by rfl) (kk := ?_)
  refine g_iload_n (M := mX6_become) (pc := 11) dX6_become_11 rfl (k := ?_)
  refine g_iload_n (M := mX6_become) (pc := 12) dX6_become_12 rfl (k := ?_)
  refine g_iast (M := mX6_become) (pc := 13) (by rfl) (by omega) (by omega) (by omega) dX6_become_13 (kk := ?_)
  refine g_aload_n (M := mX6_become) (pc := 14) dX6_become_14 rfl (k := ?_)
  refine g_getr (M := mX6_become) (pc := 15) (by rfl) fX6_0 kX6_13 dX6_become_15 (by rfl) (kk := ?_)
  refine g_iload_n (M := mX6_become) (pc := 18) dX6_become_18 rfl (k := ?_)
  refine g_aald (M := mX6_become) (pc := 19) (by rfl) (by decide) (by omega) (by omega) (items_ref (by omega) (by omega)) dX6_become_19 (kk := ?_)
  refine g_lconst (M := mX6_become) (pc := 20) (x := 0) dX6_become_20 (k := ?_)
  refine g_cS2V (M := mX6_become) (pc := 21) (c_J7_fill_d0a16 Γ t _ _ _ (by refine ivu31 ?_ (by omega) (by omega); refine ivu32 ?_ (by omega) (by omega); exact hI) (by first | omega | (simp only [up_same, up_cell, up_slot, ne_eq, not_false_eq_true, Nat.reduceEqDiff, Int.reduceEq, reduceCtorEq, Nat.reduceAdd, Int.reduceAdd, Int.reduceSub]; done) | (simp only [up_same, up_cell, up_slot, ne_eq, not_false_eq_true, Nat.reduceEqDiff, Int.reduceEq, reduceCtorEq, Nat.reduceAdd, Int.reduceAdd, Int.reduceSub]; omega)) (by omega)) qJ7_fill_d0a16 vJ7_fill_d0a16 kX6_23 dX6_become_21 (kk := ?_)
  rintro τ21 ⟨hz21, ho21, hI21, hG21⟩
  try simp only [up_same, up_cell, up_slot, ne_eq, not_false_eq_true, Nat.reduceEqDiff, Int.reduceEq, reduceCtorEq, Nat.reduceAdd, Int.reduceAdd, Int.reduceSub] at hz21 ho21
  have hF21 : Fr scTp σ τ21 := by refine Fr.tr ?_ (Fr.mono hG21 sb_scI_scTp); refine Fr.up ?_ (by first | rfl | (unfold scTp; simp; try omega)); refine Fr.up ?_ (by first | rfl | (unfold scTp; simp; try omega)); exact (Fr.rf)
  refine g_iconst (M := mX6_become) (pc := 24) dX6_become_24 (k := ?_)
  refine g_iret (M := mX6_become) (pc := 25) rfl dX6_become_25 rfl ⟨_, _, rfl, rfl, ?_⟩
  refine ⟨?_, ?_, ?_, ?_⟩
  · rfl
  · exact ⟨fun j => by rw [ho21 32 j (by omega)]; simp [up], fun j => by rw [ho21 31 j (by omega)]; simp [up], hz21, fun k j h1 h2 h3 => by rw [ho21 k j h3]; simp [up, h1, h2]⟩
  · exact hI21
  · exact hF21
set_option maxHeartbeats 4000000 in
set_option maxRecDepth 20000 in
theorem c_X6_cut (Γ : KT) (t : Nat) (σ : Nat → Int → Int) (s : Int) (v : Int) (hs : R32 s) (hv : R64 v) : Ct Γ mX6_cut 1 (0, 0) [vI s, vL v] (113, ρT t, σ) (pL 113 (ρT t) (fun r σ' => r = cutF s v ∧ σ' = σ)) := by
  refine Ct.of rfl (Nat.le_of_ble_eq_true rfl) ?_
  show G Γ mX6_cut 1 (0, 0) _ (0, 0) 0 [some (vI s), some (vL v), none] [] (113, ρT t, σ)
  refine g_iload_n (M := mX6_cut) (pc := 0) dX6_cut_0 rfl (k := ?_)
  by_cases hsw1 : s < 0 ∨ 4 < s
  · skip
    refine g_tableOut (M := mX6_cut) (pc := 1) (tgt := 62) (by omega) dX6_cut_1 (h := hsw1) (k := ?_)
    refine g_lload_n (M := mX6_cut) (pc := 62) dX6_cut_62 rfl (k := ?_)
    refine g_lret (M := mX6_cut) (pc := 63) rfl dX6_cut_63 rfl ⟨_, _, rfl, rfl, ?_⟩
    exact ⟨by unfold cutF; repeat (first | rw [if_pos (by omega)] | rw [if_neg (by omega)]), rfl⟩
  · obtain hc1 | hc1 | hc1 | hc1 | hc1 : s = 0 ∨ s = 1 ∨ s = 2 ∨ s = 3 ∨ s = 4 := by omega
    · skip
      refine g_tableIn (M := mX6_cut) (pc := 1) (tgt := 36) (by omega) dX6_cut_1 (0) hc1 (k := ?_)
      refine g_lload_n (M := mX6_cut) (pc := 36) dX6_cut_36 rfl (k := ?_)
      refine g_l2i (M := mX6_cut) (pc := 37) dX6_cut_37 (k := ?_)
      have hz37 := zl2iR v
      refine g_i2b (M := mX6_cut) (pc := 38) dX6_cut_38 (k := ?_)
      have hz38 := zi2bR (zl2i v)
      refine g_i2l (M := mX6_cut) (pc := 39) (by omega) dX6_cut_39 (k := ?_)
      refine g_lret (M := mX6_cut) (pc := 40) rfl dX6_cut_40 rfl ⟨_, _, rfl, rfl, ?_⟩
      exact ⟨by unfold cutF; repeat (first | rw [if_pos (by omega)] | rw [if_neg (by omega)]), rfl⟩
    · skip
      refine g_tableIn (M := mX6_cut) (pc := 1) (tgt := 41) (by omega) dX6_cut_1 (1) hc1 (k := ?_)
      refine g_lload_n (M := mX6_cut) (pc := 41) dX6_cut_41 rfl (k := ?_)
      refine g_l2i (M := mX6_cut) (pc := 42) dX6_cut_42 (k := ?_)
      have hz42 := zl2iR v
      refine g_i2s (M := mX6_cut) (pc := 43) dX6_cut_43 (k := ?_)
      have hz43 := zi2sR (zl2i v)
      refine g_i2l (M := mX6_cut) (pc := 44) (by omega) dX6_cut_44 (k := ?_)
      refine g_lret (M := mX6_cut) (pc := 45) rfl dX6_cut_45 rfl ⟨_, _, rfl, rfl, ?_⟩
      exact ⟨by unfold cutF; repeat (first | rw [if_pos (by omega)] | rw [if_neg (by omega)]), rfl⟩
    · skip
      refine g_tableIn (M := mX6_cut) (pc := 1) (tgt := 46) (by omega) dX6_cut_1 (2) hc1 (k := ?_)
      refine g_lload_n (M := mX6_cut) (pc := 46) dX6_cut_46 rfl (k := ?_)
      refine g_l2i (M := mX6_cut) (pc := 47) dX6_cut_47 (k := ?_)
      have hz47 := zl2iR v
      refine g_i2l (M := mX6_cut) (pc := 48) (by omega) dX6_cut_48 (k := ?_)
      refine g_lret (M := mX6_cut) (pc := 49) rfl dX6_cut_49 rfl ⟨_, _, rfl, rfl, ?_⟩
      exact ⟨by unfold cutF; repeat (first | rw [if_pos (by omega)] | rw [if_neg (by omega)]), rfl⟩
    · skip
      refine g_tableIn (M := mX6_cut) (pc := 1) (tgt := 62) (by omega) dX6_cut_1 (3) hc1 (k := ?_)
      refine g_lload_n (M := mX6_cut) (pc := 62) dX6_cut_62 rfl (k := ?_)
      refine g_lret (M := mX6_cut) (pc := 63) rfl dX6_cut_63 rfl ⟨_, _, rfl, rfl, ?_⟩
      exact ⟨by unfold cutF; repeat (first | rw [if_pos (by omega)] | rw [if_neg (by omega)]), rfl⟩
    · skip
      refine g_tableIn (M := mX6_cut) (pc := 1) (tgt := 50) (by omega) dX6_cut_1 (4) hc1 (k := ?_)
      refine g_lload_n (M := mX6_cut) (pc := 50) dX6_cut_50 rfl (k := ?_)
      refine g_lconst (M := mX6_cut) (pc := 51) (x := 0) dX6_cut_51 (k := ?_)
      refine g_lcmp2 (M := mX6_cut) (pc := 52) (by omega) (by omega) dX6_cut_52 (k := fun c52 hz52 => ?_)
      refine g_if_eq (M := mX6_cut) (pc := 53) (tgt := 60) (by omega) dX6_cut_53 (k1 := fun h53 => ?_) (k2 := fun h53 => ?_)
      · skip
        refine g_lconst (M := mX6_cut) (pc := 60) (x := 0) dX6_cut_60 (k := ?_)
        refine g_lret (M := mX6_cut) (pc := 61) rfl dX6_cut_61 rfl ⟨_, _, rfl, rfl, ?_⟩
        exact ⟨by unfold cutF; repeat (first | rw [if_pos (by omega)] | rw [if_neg (by omega)]), rfl⟩
      · skip
        refine g_lconst (M := mX6_cut) (pc := 56) (x := 1) dX6_cut_56 (k := ?_)
        refine g_goto (M := mX6_cut) (pc := 57) (tgt := 61) dX6_cut_57 (k := ?_)
        refine g_lret (M := mX6_cut) (pc := 61) rfl dX6_cut_61 rfl ⟨_, _, rfl, rfl, ?_⟩
        exact ⟨by unfold cutF; repeat (first | rw [if_pos (by omega)] | rw [if_neg (by omega)]), rfl⟩
