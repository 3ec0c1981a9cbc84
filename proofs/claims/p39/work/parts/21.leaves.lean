set_option maxHeartbeats 4000000 in
set_option maxRecDepth 20000 in
theorem c_X10_isUpTo (Γ : KT) (t : Nat) (σ : Nat → Int → Int) (n : Int) (last : Int) (hn : R32 n) (hl : R32 last) : Ct Γ mX10_isUpTo 1 (0, 0) [vI n, vI last] (113, ρT t, σ) (pI 113 (ρT t) (fun r σ' => r = b2 (0 ≤ n ∧ n ≤ last) ∧ σ' = σ)) := by
  refine Ct.of rfl (Nat.le_of_ble_eq_true rfl) ?_
  show G Γ mX10_isUpTo 1 (0, 0) _ (0, 0) 0 [some (vI n), some (vI last)] [] (113, ρT t, σ)
  refine g_iload_n (M := mX10_isUpTo) (pc := 0) dX10_isUpTo_0 rfl (k := ?_)
  refine g_if_lt (M := mX10_isUpTo) (pc := 1) (tgt := 13) (by omega) dX10_isUpTo_1 (k1 := fun h1 => ?_) (k2 := fun h1 => ?_)
  · skip
    refine g_iconst (M := mX10_isUpTo) (pc := 13) dX10_isUpTo_13 (k := ?_)
    refine g_zret (M := mX10_isUpTo) (pc := 14) (by first | omega | (unfold b2; split <;> omega)) rfl dX10_isUpTo_14 rfl ⟨_, _, rfl, rfl, ?_⟩
    exact ⟨by unfold b2; split <;> omega, rfl⟩
  · skip
    refine g_iload_n (M := mX10_isUpTo) (pc := 4) dX10_isUpTo_4 rfl (k := ?_)
    refine g_iload_n (M := mX10_isUpTo) (pc := 5) dX10_isUpTo_5 rfl (k := ?_)
    refine g_icmp_gt (M := mX10_isUpTo) (pc := 6) (tgt := 13) (by omega) (by omega) dX10_isUpTo_6 (k1 := fun h6 => ?_) (k2 := fun h6 => ?_)
    · skip
      refine g_iconst (M := mX10_isUpTo) (pc := 13) dX10_isUpTo_13 (k := ?_)
      refine g_zret (M := mX10_isUpTo) (pc := 14) (by first | omega | (unfold b2; split <;> omega)) rfl dX10_isUpTo_14 rfl ⟨_, _, rfl, rfl, ?_⟩
      exact ⟨by unfold b2; split <;> omega, rfl⟩
    · skip
      refine g_iconst (M := mX10_isUpTo) (pc := 9) dX10_isUpTo_9 (k := ?_)
      refine g_goto (M := mX10_isUpTo) (pc := 10) (tgt := 14) dX10_isUpTo_10 (k := ?_)
      refine g_zret (M := mX10_isUpTo) (pc := 14) (by first | omega | (unfold b2; split <;> omega)) rfl dX10_isUpTo_14 rfl ⟨_, _, rfl, rfl, ?_⟩
      exact ⟨by unfold b2; split <;> omega, rfl⟩
set_option maxHeartbeats 4000000 in
set_option maxRecDepth 20000 in
theorem c_X10_bit (Γ : KT) (t : Nat) (σ : Nat → Int → Int) (b : Int) (p : Int) : Ct Γ mX10_bit 1 (0, 0) [vI b, vI p] (113, ρT t, σ) (pI 113 (ρT t) (fun r σ' => r = zbit b p ∧ σ' = σ)) := by
  refine Ct.of rfl (Nat.le_of_ble_eq_true rfl) ?_
  show G Γ mX10_bit 1 (0, 0) _ (0, 0) 0 [some (vI b), some (vI p)] [] (113, ρT t, σ)
  refine g_iload_n (M := mX10_bit) (pc := 0) dX10_bit_0 rfl (k := ?_)
  refine g_iload_n (M := mX10_bit) (pc := 1) dX10_bit_1 rfl (k := ?_)
  refine g_ishr (M := mX10_bit) (pc := 2) dX10_bit_2 (k := ?_)
  have hz2 := zshrR b p
  refine g_iconst (M := mX10_bit) (pc := 3) dX10_bit_3 (k := ?_)
  refine g_iand (M := mX10_bit) (pc := 4) dX10_bit_4 (k := ?_)
  have hz4 := zandR (zshr b p) 1
  have hy4 := zand1 (zshr b p)
  refine g_iret (M := mX10_bit) (pc := 5) rfl dX10_bit_5 rfl ⟨_, _, rfl, rfl, ?_⟩
  exact ⟨rfl, rfl⟩
set_option maxHeartbeats 4000000 in
set_option maxRecDepth 20000 in
theorem c_X10_withBit (Γ : KT) (t : Nat) (σ : Nat → Int → Int) (b : Int) (p : Int) (z : Int) (hz : R32 z) : Ct Γ mX10_withBit 1 (0, 0) [vI b, vI p, vI z] (113, ρT t, σ) (pI 113 (ρT t) (fun r σ' => r = zwith b p z ∧ σ' = σ)) := by
  refine Ct.of rfl (Nat.le_of_ble_eq_true rfl) ?_
  show G Γ mX10_withBit 1 (0, 0) _ (0, 0) 0 [some (vI b), some (vI p), some (vI z)] [] (113, ρT t, σ)
  refine g_iload_n (M := mX10_withBit) (pc := 0) dX10_withBit_0 rfl (k := ?_)
  refine g_if_eq (M := mX10_withBit) (pc := 1) (tgt := 12) (by omega) dX10_withBit_1 (k1 := fun h1 => ?_) (k2 := fun h1 => ?_)
  · skip
    refine g_iload_n (M := mX10_withBit) (pc := 12) dX10_withBit_12 rfl (k := ?_)
    refine g_iconst (M := mX10_withBit) (pc := 13) dX10_withBit_13 (k := ?_)
    refine g_iload_n (M := mX10_withBit) (pc := 14) dX10_withBit_14 rfl (k := ?_)
    refine g_ishl (M := mX10_withBit) (pc := 15) dX10_withBit_15 (k := ?_)
    have hz15 := zshlR 1 p
    refine g_iconst (M := mX10_withBit) (pc := 16) dX10_withBit_16 (k := ?_)
    refine g_ixor (M := mX10_withBit) (pc := 17) dX10_withBit_17 (k := ?_)
    have hz17 := zxorR (zshl 1 p) (-1)
    refine g_iand (M := mX10_withBit) (pc := 18) dX10_withBit_18 (k := ?_)
    have hz18 := zandR b (zxor (zshl 1 p) (-1))
    refine g_iret (M := mX10_withBit) (pc := 19) rfl dX10_withBit_19 rfl ⟨_, _, rfl, rfl, ?_⟩
    exact ⟨by unfold zwith; first | rw [if_pos (by omega)] | rw [if_neg (by omega)], rfl⟩
  · skip
    refine g_iload_n (M := mX10_withBit) (pc := 4) dX10_withBit_4 rfl (k := ?_)
    refine g_iconst (M := mX10_withBit) (pc := 5) dX10_withBit_5 (k := ?_)
    refine g_iload_n (M := mX10_withBit) (pc := 6) dX10_withBit_6 rfl (k := ?_)
    refine g_ishl (M := mX10_withBit) (pc := 7) dX10_withBit_7 (k := ?_)
    have hz7 := zshlR 1 p
    refine g_ior (M := mX10_withBit) (pc := 8) dX10_withBit_8 (k := ?_)
    have hz8 := zorR b (zshl 1 p)
    refine g_goto (M := mX10_withBit) (pc := 9) (tgt := 19) dX10_withBit_9 (k := ?_)
    refine g_iret (M := mX10_withBit) (pc := 19) rfl dX10_withBit_19 rfl ⟨_, _, rfl, rfl, ?_⟩
    exact ⟨by unfold zwith; first | rw [if_pos (by omega)] | rw [if_neg (by omega)], rfl⟩
set_option maxHeartbeats 4000000 in
set_option maxRecDepth 20000 in
theorem c_X10_isUnder (Γ : KT) (t : Nat) (σ : Nat → Int → Int) (a : Int) (k : Int) (ha : 0 ≤ a ∧ a ≤ 6) (hk : 0 ≤ k ∧ k ≤ 6) : Ct Γ mX10_isUnder 2 (0, 0) [vI a, vI k] (113, ρT t, σ) (pI 113 (ρT t) (fun r σ' => ((r = 1 ∧ undB a k = true) ∨ (r = 0 ∧ undB a k = false)) ∧ σ' = σ)) := by
  refine Ct.of rfl (Nat.le_of_ble_eq_true rfl) ?_
  show G Γ mX10_isUnder 2 (0, 0) _ (0, 0) 0 [some (vI a), some (vI k), none, none] [] (113, ρT t, σ)
  refine g_iload_n (M := mX10_isUnder) (pc := 0) dX10_isUnder_0 rfl (k := ?_)
  refine g_istore_2 (M := mX10_isUnder) (pc := 1) dX10_isUnder_1 (k := ?_)
  refine g_iconst (M := mX10_isUnder) (pc := 2) dX10_isUnder_2 (k := ?_)
  refine g_istore_3 (M := mX10_isUnder) (pc := 3) dX10_isUnder_3 (k := ?_)
  have loop4 : ∀ (N : Nat) (q : Int) (s : Int), ((8 - s).toNat) < N → ((-1 ≤ q ∧ q ≤ 6) ∧ (0 ≤ s ∧ s ≤ 7) ∧ (undB q k = undB a k) ∧ ((q = -1 ∧ s ≤ 6) ∨ (q = 0 ∧ s ≤ 3) ∨ (1 ≤ q ∧ q ≤ 3 ∧ s ≤ 2) ∨ (4 ≤ q ∧ s ≤ 1))) → G Γ mX10_isUnder 2 (0, 0) (pI 113 (ρT t) (fun r σ' => ((r = 1 ∧ undB a k = true) ∨ (r = 0 ∧ undB a k = false)) ∧ σ' = σ)) (0, 0) 4 [some (vI a), some (vI k), some (vI q), some (vI s)] [] (113, ρT t, σ) := by
    intro N
    induction N with
    | zero => intro q s hmu4 hinv4; exact absurd hmu4 (Nat.not_lt_zero _)
    | succ N ih4 =>
      intro q s hmu4 hinv4
      obtain ⟨hb4_q, hb4_s, hx4_0, hx4_1⟩ := hinv4
      refine g_iload_n (M := mX10_isUnder) (pc := 4) dX10_isUnder_4 rfl (k := ?_)
      refine g_bipush (M := mX10_isUnder) (pc := 5) dX10_isUnder_5 (k := ?_)
      refine g_icmp_gt (M := mX10_isUnder) (pc := 7) (tgt := 38) (by omega) (by omega) dX10_isUnder_7 (k1 := fun h7 => ?_) (k2 := fun h7 => ?_)
      · skip
        refine g_iconst (M := mX10_isUnder) (pc := 38) dX10_isUnder_38 (k := ?_)
        refine g_zret (M := mX10_isUnder) (pc := 39) (by first | omega | (unfold b2; split <;> omega)) rfl dX10_isUnder_39 rfl ⟨_, _, rfl, rfl, ?_⟩
        refine ⟨?_, rfl⟩
        · first | exact Or.inl ⟨rfl, by rw [← hx4_0, h21]; exact undK _⟩ | exact Or.inr ⟨rfl, by rw [← hx4_0, show q = -1 by omega]; exact undN hk⟩
      · skip
        refine g_iload_n (M := mX10_isUnder) (pc := 10) dX10_isUnder_10 rfl (k := ?_)
        refine g_bipush (M := mX10_isUnder) (pc := 11) dX10_isUnder_11 (k := ?_)
        refine g_cS2I (M := mX10_isUnder) (pc := 13) (c_X10_isUpTo Γ t _ _ _ (by omega) (by omega)) qX10_isUpTo vX10_isUpTo kX10_58 dX10_isUnder_13 (kk := ?_)
        rintro _ _ ⟨e1, e⟩; rw [e1, e]; clear e1 e
        refine g_if_eqB (M := mX10_isUnder) (pc := 16) (tgt := 38) dX10_isUnder_16 (k1 := fun h16 => ?_) (k2 := fun h16 => ?_)
        · skip
          refine g_iconst (M := mX10_isUnder) (pc := 38) dX10_isUnder_38 (k := ?_)
          refine g_zret (M := mX10_isUnder) (pc := 39) (by first | omega | (unfold b2; split <;> omega)) rfl dX10_isUnder_39 rfl ⟨_, _, rfl, rfl, ?_⟩
          refine ⟨?_, rfl⟩
          · first | exact Or.inl ⟨rfl, by rw [← hx4_0, h21]; exact undK _⟩ | exact Or.inr ⟨rfl, by rw [← hx4_0, show q = -1 by omega]; exact undN hk⟩
        · skip
          refine g_iload_n (M := mX10_isUnder) (pc := 19) dX10_isUnder_19 rfl (k := ?_)
          refine g_iload_n (M := mX10_isUnder) (pc := 20) dX10_isUnder_20 rfl (k := ?_)
          refine g_icmp_ne (M := mX10_isUnder) (pc := 21) (tgt := 26) (by omega) (by omega) dX10_isUnder_21 (k1 := fun h21 => ?_) (k2 := fun h21 => ?_)
          · skip
            refine g_above (M := mX10_isUnder) (pc := 26) kX10_315 dX10_isUnder_26 (k := ?_)
            refine g_iload_n (M := mX10_isUnder) (pc := 29) dX10_isUnder_29 rfl (k := ?_)
            refine g_aboveAt (M := mX10_isUnder) (pc := 30) (by omega) (by omega) dX10_isUnder_30 (k := ?_)
            have hz30 := aboveE (i := q) (by omega) (by omega)
            refine g_istore_2 (M := mX10_isUnder) (pc := 31) dX10_isUnder_31 (k := ?_)
            refine g_iinc_3 (M := mX10_isUnder) (pc := 32) dX10_isUnder_32 (k := ?_)
            refine g_goto (M := mX10_isUnder) (pc := 35) (tgt := 4) dX10_isUnder_35 (k := ?_)
            refine ih4 _ _ ?_ ?_
            · omega
            · skip
              refine ⟨?_, ?_, ?_, ?_⟩
              · omega
              · omega
              · first | rfl | exact (undS (by omega) (by omega) hk h21).trans hx4_0
              · omega
          · skip
            refine g_iconst (M := mX10_isUnder) (pc := 24) dX10_isUnder_24 (k := ?_)
            refine g_zret (M := mX10_isUnder) (pc := 25) (by first | omega | (unfold b2; split <;> omega)) rfl dX10_isUnder_25 rfl ⟨_, _, rfl, rfl, ?_⟩
            refine ⟨?_, rfl⟩
            · first | exact Or.inl ⟨rfl, by rw [← hx4_0, h21]; exact undK _⟩ | exact Or.inr ⟨rfl, by rw [← hx4_0, show q = -1 by omega]; exact undN hk⟩
  refine loop4 _ _ _ (Nat.lt_succ_self _) ?_
  refine ⟨?_, ?_, ?_, ?_⟩
  · omega
  · omega
  · first | rfl | exact (undS (by omega) (by omega) hk h21).trans hx4_0
  · omega
set_option maxHeartbeats 4000000 in
set_option maxRecDepth 20000 in
theorem c_X10_roundedUp (Γ : KT) (t : Nat) (σ : Nat → Int → Int) (w : Int) (b : Int) (hw : R32 w) (hb : R32 b) (hs : R32 (w + b - 1)) : Ct Γ mX10_roundedUp 1 (0, 0) [vI w, vI b] (113, ρT t, σ) (pI 113 (ρT t) (fun r σ' => r = rup w b ∧ σ' = σ)) := by
  refine Ct.of rfl (Nat.le_of_ble_eq_true rfl) ?_
  show G Γ mX10_roundedUp 1 (0, 0) _ (0, 0) 0 [some (vI w), some (vI b)] [] (113, ρT t, σ)
  refine g_iload_n (M := mX10_roundedUp) (pc := 0) dX10_roundedUp_0 rfl (k := ?_)
  refine g_if_le (M := mX10_roundedUp) (pc := 1) (tgt := 14) (by omega) dX10_roundedUp_1 (k1 := fun h1 => ?_) (k2 := fun h1 => ?_)
  · skip
    refine g_iconst (M := mX10_roundedUp) (pc := 14) dX10_roundedUp_14 (k := ?_)
    refine g_iret (M := mX10_roundedUp) (pc := 15) rfl dX10_roundedUp_15 rfl ⟨_, _, rfl, rfl, ?_⟩
    exact ⟨by unfold rup; first | rw [if_pos (by omega)] | rw [if_neg (by omega)], rfl⟩
  · skip
    refine g_iload_n (M := mX10_roundedUp) (pc := 4) dX10_roundedUp_4 rfl (k := ?_)
    refine g_iload_n (M := mX10_roundedUp) (pc := 5) dX10_roundedUp_5 rfl (k := ?_)
    refine g_iadd (M := mX10_roundedUp) (pc := 6) dX10_roundedUp_6 (k := ?_)
    refine g_iconst (M := mX10_roundedUp) (pc := 7) dX10_roundedUp_7 (k := ?_)
    refine g_isub (M := mX10_roundedUp) (pc := 8) dX10_roundedUp_8 (k := ?_)
    refine g_iload_n (M := mX10_roundedUp) (pc := 9) dX10_roundedUp_9 rfl (k := ?_)
    refine g_idiv (M := mX10_roundedUp) (pc := 10) (by omega) (by omega) (by omega) dX10_roundedUp_10 (k := ?_)
    have hz10 := tdivB (a := (w + b) - 1) (b := b) (by omega)
    refine g_goto (M := mX10_roundedUp) (pc := 11) (tgt := 15) dX10_roundedUp_11 (k := ?_)
    refine g_iret (M := mX10_roundedUp) (pc := 15) rfl dX10_roundedUp_15 rfl ⟨_, _, rfl, rfl, ?_⟩
    exact ⟨by unfold rup; first | rw [if_pos (by omega)] | rw [if_neg (by omega)], rfl⟩
set_option maxHeartbeats 4000000 in
set_option maxRecDepth 20000 in
theorem c_X10_sideOfFraction (Γ : KT) (t : Nat) (σ : Nat → Int → Int) (a : Int) (b : Int) (p : Int) (ha : R64 a) (hb : R64 b) (hp : R32 p) : Ct Γ mX10_sideOfFraction 1 (0, 0) [vL a, vL b, vI p] (113, ρT t, σ) (pL 113 (ρT t) (fun r σ' => (R64 r) ∧ σ' = σ)) := by
  refine Ct.of rfl (Nat.le_of_ble_eq_true rfl) ?_
  show G Γ mX10_sideOfFraction 1 (0, 0) _ (0, 0) 0 [some (vL a), none, some (vL b), none, some (vI p), none, none, none, none, none, none, none] [] (113, ρT t, σ)
  refine g_lload_n (M := mX10_sideOfFraction) (pc := 0) dX10_sideOfFraction_0 rfl (k := ?_)
  refine g_lstore_5 (M := mX10_sideOfFraction) (pc := 1) dX10_sideOfFraction_1 (k := ?_)
  refine g_lload_n (M := mX10_sideOfFraction) (pc := 3) dX10_sideOfFraction_3 rfl (k := ?_)
  refine g_lstore_7 (M := mX10_sideOfFraction) (pc := 4) dX10_sideOfFraction_4 (k := ?_)
  refine g_iconst (M := mX10_sideOfFraction) (pc := 6) dX10_sideOfFraction_6 (k := ?_)
  refine g_istore_9 (M := mX10_sideOfFraction) (pc := 7) dX10_sideOfFraction_7 (k := ?_)
  have loop9 : ∀ (N : Nat) (q : Int) (s : Int) (n : Int), ((101 - n).toNat) < N → ((-9223372036854775808 ≤ q ∧ q ≤ 9223372036854775807) ∧ (-9223372036854775808 ≤ s ∧ s ≤ 9223372036854775807) ∧ (0 ≤ n ∧ n ≤ 100)) → G Γ mX10_sideOfFraction 1 (0, 0) (pL 113 (ρT t) (fun r σ' => (R64 r) ∧ σ' = σ)) (0, 0) 9 [some (vL a), none, some (vL b), none, some (vI p), some (vL q), none, some (vL s), none, some (vI n), none, none] [] (113, ρT t, σ) := by
    intro N
    induction N with
    | zero => intro q s n hmu9 hinv9; exact absurd hmu9 (Nat.not_lt_zero _)
    | succ N ih9 =>
      intro q s n hmu9 hinv9
      obtain ⟨hb9_q, hb9_s, hb9_n⟩ := hinv9
      refine g_iload (M := mX10_sideOfFraction) (pc := 9) dX10_sideOfFraction_9 rfl (k := ?_)
      refine g_bipush (M := mX10_sideOfFraction) (pc := 11) dX10_sideOfFraction_11 (k := ?_)
      refine g_icmp_ge (M := mX10_sideOfFraction) (pc := 13) (tgt := 44) (by omega) (by omega) dX10_sideOfFraction_13 (k1 := fun h13 => ?_) (k2 := fun h13 => ?_)
      · skip
        refine g_iload (M := mX10_sideOfFraction) (pc := 44) dX10_sideOfFraction_44 rfl (k := ?_)
        refine g_if_ne (M := mX10_sideOfFraction) (pc := 46) (tgt := 53) (by omega) dX10_sideOfFraction_46 (k1 := fun h46 => ?_) (k2 := fun h46 => ?_)
        · skip
          refine g_lload_n (M := mX10_sideOfFraction) (pc := 53) dX10_sideOfFraction_53 rfl (k := ?_)
          refine g_lstore_9 (M := mX10_sideOfFraction) (pc := 54) dX10_sideOfFraction_54 (k := ?_)
          refine g_lload (M := mX10_sideOfFraction) (pc := 56) dX10_sideOfFraction_56 rfl (k := ?_)
          refine g_lconst (M := mX10_sideOfFraction) (pc := 58) (x := 0) dX10_sideOfFraction_58 (k := ?_)
          refine g_lcmp2 (M := mX10_sideOfFraction) (pc := 59) (by omega) (by omega) dX10_sideOfFraction_59 (k := fun c59 hz59 => ?_)
          refine g_if_le (M := mX10_sideOfFraction) (pc := 60) (tgt := 71) (by omega) dX10_sideOfFraction_60 (k1 := fun h60 => ?_) (k2 := fun h60 => ?_)
          · skip
            refine g_lload (M := mX10_sideOfFraction) (pc := 71) dX10_sideOfFraction_71 rfl (k := ?_)
            refine g_lret (M := mX10_sideOfFraction) (pc := 73) rfl dX10_sideOfFraction_73 rfl ⟨_, _, rfl, rfl, ?_⟩
            refine ⟨?_, rfl⟩
            · omega
          · skip
            refine g_lload (M := mX10_sideOfFraction) (pc := 63) dX10_sideOfFraction_63 rfl (k := ?_)
            refine g_lload (M := mX10_sideOfFraction) (pc := 65) dX10_sideOfFraction_65 rfl (k := ?_)
            refine g_ldiv (M := mX10_sideOfFraction) (pc := 67) (by omega) (by omega) (by omega) dX10_sideOfFraction_67 (k := ?_)
            have hz67 := tdivB (a := b) (b := q) (by omega)
            refine g_goto (M := mX10_sideOfFraction) (pc := 68) (tgt := 73) dX10_sideOfFraction_68 (k := ?_)
            refine g_lret (M := mX10_sideOfFraction) (pc := 73) rfl dX10_sideOfFraction_73 rfl ⟨_, _, rfl, rfl, ?_⟩
            refine ⟨?_, rfl⟩
            · omega
        · skip
          refine g_lload_n (M := mX10_sideOfFraction) (pc := 49) dX10_sideOfFraction_49 rfl (k := ?_)
          refine g_goto (M := mX10_sideOfFraction) (pc := 50) (tgt := 54) dX10_sideOfFraction_50 (k := ?_)
          refine g_lstore_9 (M := mX10_sideOfFraction) (pc := 54) dX10_sideOfFraction_54 (k := ?_)
          refine g_lload (M := mX10_sideOfFraction) (pc := 56) dX10_sideOfFraction_56 rfl (k := ?_)
          refine g_lconst (M := mX10_sideOfFraction) (pc := 58) (x := 0) dX10_sideOfFraction_58 (k := ?_)
          refine g_lcmp2 (M := mX10_sideOfFraction) (pc := 59) (by omega) (by omega) dX10_sideOfFraction_59 (k := fun c59 hz59 => ?_)
          refine g_if_le (M := mX10_sideOfFraction) (pc := 60) (tgt := 71) (by omega) dX10_sideOfFraction_60 (k1 := fun h60 => ?_) (k2 := fun h60 => ?_)
          · skip
            refine g_lload (M := mX10_sideOfFraction) (pc := 71) dX10_sideOfFraction_71 rfl (k := ?_)
            refine g_lret (M := mX10_sideOfFraction) (pc := 73) rfl dX10_sideOfFraction_73 rfl ⟨_, _, rfl, rfl, ?_⟩
            refine ⟨?_, rfl⟩
            · omega
          · skip
            refine g_lload (M := mX10_sideOfFraction) (pc := 63) dX10_sideOfFraction_63 rfl (k := ?_)
            refine g_lload (M := mX10_sideOfFraction) (pc := 65) dX10_sideOfFraction_65 rfl (k := ?_)
            refine g_ldiv (M := mX10_sideOfFraction) (pc := 67) (by omega) (by omega) (by omega) dX10_sideOfFraction_67 (k := ?_)
            have hz67 := tdivB (a := a) (b := q) (by omega)
            refine g_goto (M := mX10_sideOfFraction) (pc := 68) (tgt := 73) dX10_sideOfFraction_68 (k := ?_)
            refine g_lret (M := mX10_sideOfFraction) (pc := 73) rfl dX10_sideOfFraction_73 rfl ⟨_, _, rfl, rfl, ?_⟩
            refine ⟨?_, rfl⟩
            · omega
      · skip
        refine g_lload (M := mX10_sideOfFraction) (pc := 16) dX10_sideOfFraction_16 rfl (k := ?_)
        refine g_lconst (M := mX10_sideOfFraction) (pc := 18) (x := 0) dX10_sideOfFraction_18 (k := ?_)
        refine g_lcmp2 (M := mX10_sideOfFraction) (pc := 19) (by omega) (by omega) dX10_sideOfFraction_19 (k := fun c19 hz19 => ?_)
        refine g_if_eq (M := mX10_sideOfFraction) (pc := 20) (tgt := 44) (by omega) dX10_sideOfFraction_20 (k1 := fun h20 => ?_) (k2 := fun h20 => ?_)
        · skip
          refine g_iload (M := mX10_sideOfFraction) (pc := 44) dX10_sideOfFraction_44 rfl (k := ?_)
          refine g_if_ne (M := mX10_sideOfFraction) (pc := 46) (tgt := 53) (by omega) dX10_sideOfFraction_46 (k1 := fun h46 => ?_) (k2 := fun h46 => ?_)
          · skip
            refine g_lload_n (M := mX10_sideOfFraction) (pc := 53) dX10_sideOfFraction_53 rfl (k := ?_)
            refine g_lstore_9 (M := mX10_sideOfFraction) (pc := 54) dX10_sideOfFraction_54 (k := ?_)
            refine g_lload (M := mX10_sideOfFraction) (pc := 56) dX10_sideOfFraction_56 rfl (k := ?_)
            refine g_lconst (M := mX10_sideOfFraction) (pc := 58) (x := 0) dX10_sideOfFraction_58 (k := ?_)
            refine g_lcmp2 (M := mX10_sideOfFraction) (pc := 59) (by omega) (by omega) dX10_sideOfFraction_59 (k := fun c59 hz59 => ?_)
            refine g_if_le (M := mX10_sideOfFraction) (pc := 60) (tgt := 71) (by omega) dX10_sideOfFraction_60 (k1 := fun h60 => ?_) (k2 := fun h60 => ?_)
            · skip
              refine g_lload (M := mX10_sideOfFraction) (pc := 71) dX10_sideOfFraction_71 rfl (k := ?_)
              refine g_lret (M := mX10_sideOfFraction) (pc := 73) rfl dX10_sideOfFraction_73 rfl ⟨_, _, rfl, rfl, ?_⟩
              refine ⟨?_, rfl⟩
              · omega
            · skip
              refine g_lload (M := mX10_sideOfFraction) (pc := 63) dX10_sideOfFraction_63 rfl (k := ?_)
              refine g_lload (M := mX10_sideOfFraction) (pc := 65) dX10_sideOfFraction_65 rfl (k := ?_)
              refine g_ldiv (M := mX10_sideOfFraction) (pc := 67) (by omega) (by omega) (by omega) dX10_sideOfFraction_67 (k := ?_)
              have hz67 := tdivB (a := b) (b := q) (by omega)
              refine g_goto (M := mX10_sideOfFraction) (pc := 68) (tgt := 73) dX10_sideOfFraction_68 (k := ?_)
              refine g_lret (M := mX10_sideOfFraction) (pc := 73) rfl dX10_sideOfFraction_73 rfl ⟨_, _, rfl, rfl, ?_⟩
              refine ⟨?_, rfl⟩
              · omega
          · skip
            refine g_lload_n (M := mX10_sideOfFraction) (pc := 49) dX10_sideOfFraction_49 rfl (k := ?_)
            refine g_goto (M := mX10_sideOfFraction) (pc := 50) (tgt := 54) dX10_sideOfFraction_50 (k := ?_)
            refine g_lstore_9 (M := mX10_sideOfFraction) (pc := 54) dX10_sideOfFraction_54 (k := ?_)
            refine g_lload (M := mX10_sideOfFraction) (pc := 56) dX10_sideOfFraction_56 rfl (k := ?_)
            refine g_lconst (M := mX10_sideOfFraction) (pc := 58) (x := 0) dX10_sideOfFraction_58 (k := ?_)
            refine g_lcmp2 (M := mX10_sideOfFraction) (pc := 59) (by omega) (by omega) dX10_sideOfFraction_59 (k := fun c59 hz59 => ?_)
            refine g_if_le (M := mX10_sideOfFraction) (pc := 60) (tgt := 71) (by omega) dX10_sideOfFraction_60 (k1 := fun h60 => ?_) (k2 := fun h60 => ?_)
            · skip
              refine g_lload (M := mX10_sideOfFraction) (pc := 71) dX10_sideOfFraction_71 rfl (k := ?_)
              refine g_lret (M := mX10_sideOfFraction) (pc := 73) rfl dX10_sideOfFraction_73 rfl ⟨_, _, rfl, rfl, ?_⟩
              refine ⟨?_, rfl⟩
              · omega
            · skip
              refine g_lload (M := mX10_sideOfFraction) (pc := 63) dX10_sideOfFraction_63 rfl (k := ?_)
              refine g_lload (M := mX10_sideOfFraction) (pc := 65) dX10_sideOfFraction_65 rfl (k := ?_)
              refine g_ldiv (M := mX10_sideOfFraction) (pc := 67) (by omega) (by omega) (by omega) dX10_sideOfFraction_67 (k := ?_)
              have hz67 := tdivB (a := a) (b := q) (by omega)
              refine g_goto (M := mX10_sideOfFraction) (pc := 68) (tgt := 73) dX10_sideOfFraction_68 (k := ?_)
              refine g_lret (M := mX10_sideOfFraction) (pc := 73) rfl dX10_sideOfFraction_73 rfl ⟨_, _, rfl, rfl, ?_⟩
              refine ⟨?_, rfl⟩
              · omega
        · skip
          refine g_lload (M := mX10_sideOfFraction) (pc := 23) dX10_sideOfFraction_23 rfl (k := ?_)
          refine g_lload (M := mX10_sideOfFraction) (pc := 25) dX10_sideOfFraction_25 rfl (k := ?_)
          refine g_lrem (M := mX10_sideOfFraction) (pc := 27) (by omega) (by omega) (by omega) dX10_sideOfFraction_27 (k := ?_)
          have hz27 := tmodG (a := q) (b := s) (by omega)
          refine g_lstore_10 (M := mX10_sideOfFraction) (pc := 28) dX10_sideOfFraction_28 (k := ?_)
          refine g_lload (M := mX10_sideOfFraction) (pc := 30) dX10_sideOfFraction_30 rfl (k := ?_)
          refine g_lstore_5 (M := mX10_sideOfFraction) (pc := 32) dX10_sideOfFraction_32 (k := ?_)
          refine g_lload (M := mX10_sideOfFraction) (pc := 34) dX10_sideOfFraction_34 rfl (k := ?_)
          refine g_lstore_7 (M := mX10_sideOfFraction) (pc := 36) dX10_sideOfFraction_36 (k := ?_)
          refine g_iinc_9 (M := mX10_sideOfFraction) (pc := 38) dX10_sideOfFraction_38 (k := ?_)
          refine g_goto (M := mX10_sideOfFraction) (pc := 41) (tgt := 9) dX10_sideOfFraction_41 (k := ?_)
          refine g_less (leL_s (leL_n (leL_s (leL_n (leL_s (leL_s (leL_n (leL_s (leL_n (leL_s (leL_n (leL_n leL_0)))))))))))) ?_
          refine ih9 _ _ _ ?_ ?_
          · omega
          · skip
            refine ⟨?_, ?_, ?_⟩
            · omega
            · omega
            · omega
  refine loop9 _ _ _ _ (Nat.lt_succ_self _) ?_
  refine ⟨?_, ?_, ?_⟩
  · omega
  · omega
  · omega
set_option maxHeartbeats 4000000 in
set_option maxRecDepth 20000 in
theorem c_X5_hasHouse (Γ : KT) (t : Nat) (σ : Nat → Int → Int) (h : Int) (hh : R32 h) : Ct Γ mX5_hasHouse 1 (0, 0) [vR Γ 33, vI h] (113, ρT t, σ) (pI 113 (ρT t) (fun r σ' => r = b2 (0 ≤ h ∧ h < (σ 33 0)) ∧ σ' = σ)) := by
  refine Ct.of rfl (Nat.le_of_ble_eq_true rfl) ?_
  show G Γ mX5_hasHouse 1 (0, 0) _ (0, 0) 0 [some (vR Γ 33), some (vI h)] [] (113, ρT t, σ)
  refine g_iload_n (M := mX5_hasHouse) (pc := 0) dX5_hasHouse_0 rfl (k := ?_)
  refine g_if_lt (M := mX5_hasHouse) (pc := 1) (tgt := 16) (by omega) dX5_hasHouse_1 (k1 := fun h1 => ?_) (k2 := fun h1 => ?_)
  · skip
    refine g_iconst (M := mX5_hasHouse) (pc := 16) dX5_hasHouse_16 (k := ?_)
    refine g_zret (M := mX5_hasHouse) (pc := 17) (by first | omega | (unfold b2; split <;> omega)) rfl dX5_hasHouse_17 rfl ⟨_, _, rfl, rfl, ?_⟩
    exact ⟨by unfold b2; split <;> omega, rfl⟩
  · skip
    refine g_iload_n (M := mX5_hasHouse) (pc := 4) dX5_hasHouse_4 rfl (k := ?_)
    refine g_aload_n (M := mX5_hasHouse) (pc := 5) dX5_hasHouse_5 rfl (k := ?_)
    refine g_get (M := mX5_hasHouse) (pc := 6) (ji := 0) (by rfl) fX5_0 kX5_55 dX5_hasHouse_6 (kk := fun hr6 => ?_)
    refine g_icmp_ge (M := mX5_hasHouse) (pc := 9) (tgt := 16) (by omega) (by omega) dX5_hasHouse_9 (k1 := fun h9 => ?_) (k2 := fun h9 => ?_)
    · skip
      refine g_iconst (M := mX5_hasHouse) (pc := 16) dX5_hasHouse_16 (k := ?_)
      refine g_zret (M := mX5_hasHouse) (pc := 17) (by first | omega | (unfold b2; split <;> omega)) rfl dX5_hasHouse_17 rfl ⟨_, _, rfl, rfl, ?_⟩
      exact ⟨by unfold b2; split <;> omega, rfl⟩
    · skip
      refine g_iconst (M := mX5_hasHouse) (pc := 12) dX5_hasHouse_12 (k := ?_)
      refine g_goto (M := mX5_hasHouse) (pc := 13) (tgt := 17) dX5_hasHouse_13 (k := ?_)
      refine g_zret (M := mX5_hasHouse) (pc := 17) (by first | omega | (unfold b2; split <;> omega)) rfl dX5_hasHouse_17 rfl ⟨_, _, rfl, rfl, ?_⟩
      exact ⟨by unfold b2; split <;> omega, rfl⟩
set_option maxHeartbeats 4000000 in
set_option maxRecDepth 20000 in
theorem c_X5_hasFolk (Γ : KT) (t : Nat) (σ : Nat → Int → Int) (f : Int) (hf : R32 f) : Ct Γ mX5_hasFolk 1 (0, 0) [vR Γ 33, vI f] (113, ρT t, σ) (pI 113 (ρT t) (fun r σ' => r = b2 (0 ≤ f ∧ f < (σ 33 6)) ∧ σ' = σ)) := by
  refine Ct.of rfl (Nat.le_of_ble_eq_true rfl) ?_
  show G Γ mX5_hasFolk 1 (0, 0) _ (0, 0) 0 [some (vR Γ 33), some (vI f)] [] (113, ρT t, σ)
  refine g_iload_n (M := mX5_hasFolk) (pc := 0) dX5_hasFolk_0 rfl (k := ?_)
  refine g_if_lt (M := mX5_hasFolk) (pc := 1) (tgt := 16) (by omega) dX5_hasFolk_1 (k1 := fun h1 => ?_) (k2 := fun h1 => ?_)
  · skip
    refine g_iconst (M := mX5_hasFolk) (pc := 16) dX5_hasFolk_16 (k := ?_)
    refine g_zret (M := mX5_hasFolk) (pc := 17) (by first | omega | (unfold b2; split <;> omega)) rfl dX5_hasFolk_17 rfl ⟨_, _, rfl, rfl, ?_⟩
    exact ⟨by unfold b2; split <;> omega, rfl⟩
  · skip
    refine g_iload_n (M := mX5_hasFolk) (pc := 4) dX5_hasFolk_4 rfl (k := ?_)
    refine g_aload_n (M := mX5_hasFolk) (pc := 5) dX5_hasFolk_5 rfl (k := ?_)
    refine g_get (M := mX5_hasFolk) (pc := 6) (ji := 6) (by rfl) fX5_6 kX5_58 dX5_hasFolk_6 (kk := fun hr6 => ?_)
    refine g_icmp_ge (M := mX5_hasFolk) (pc := 9) (tgt := 16) (by omega) (by omega) dX5_hasFolk_9 (k1 := fun h9 => ?_) (k2 := fun h9 => ?_)
    · skip
      refine g_iconst (M := mX5_hasFolk) (pc := 16) dX5_hasFolk_16 (k := ?_)
      refine g_zret (M := mX5_hasFolk) (pc := 17) (by first | omega | (unfold b2; split <;> omega)) rfl dX5_hasFolk_17 rfl ⟨_, _, rfl, rfl, ?_⟩
      exact ⟨by unfold b2; split <;> omega, rfl⟩
    · skip
      refine g_iconst (M := mX5_hasFolk) (pc := 12) dX5_hasFolk_12 (k := ?_)
      refine g_goto (M := mX5_hasFolk) (pc := 13) (tgt := 17) dX5_hasFolk_13 (k := ?_)
      refine g_zret (M := mX5_hasFolk) (pc := 17) (by first | omega | (unfold b2; split <;> omega)) rfl dX5_hasFolk_17 rfl ⟨_, _, rfl, rfl, ?_⟩
      exact ⟨by unfold b2; split <;> omega, rfl⟩
set_option maxHeartbeats 4000000 in
set_option maxRecDepth 20000 in
theorem c_X5_settle (Γ : KT) (t : Nat) (σ : Nat → Int → Int) (h : Int) (k : Int) (v : Int) (hh : 0 ≤ h ∧ h < 6) (hk : R32 k) (hv : R32 v) : Ct Γ mX5_settle 1 (0, 0) [vR Γ 33, vI h, vI k, vI v] (113, ρT t, σ) (pV 113 (ρT t) (fun σ' => σ' = (up (up (up σ 34 h k) 35 h v) 38 h 15))) := by
  refine Ct.of rfl (Nat.le_of_ble_eq_true rfl) ?_
  show G Γ mX5_settle 1 (0, 0) _ (0, 0) 0 [some (vR Γ 33), some (vI h), some (vI k), some (vI v)] [] (113, ρT t, σ)
  refine g_aload_n (M := mX5_settle) (pc := 0) dX5_settle_0 rfl (k := ?_)
  refine g_getr (M := mX5_settle) (pc := 1) (by rfl) fX5_1 kX5_9 dX5_settle_1 (by rfl) (kk := ?_)
  refine g_iload_n (M := mX5_settle) (pc := 4) dX5_settle_4 rfl (k := ?_)
  refine g_iload_n (M := mX5_settle) (pc := 5) dX5_settle_5 rfl (k := ?_)
  refine g_iast (M := mX5_settle) (pc := 6) (by rfl) (by omega) (by omega) (by omega) dX5_settle_6 (kk := ?_)
  refine g_aload_n (M := mX5_settle) (pc := 7) dX5_settle_7 rfl (k := ?_)
  refine g_getr (M := mX5_settle) (pc := 8) (by rfl) fX5_2 kX5_15 dX5_settle_8 (by rfl) (kk := ?_)
  refine g_iload_n (M := mX5_settle) (pc := 11) dX5_settle_11 rfl (k := ?_)
  refine g_iload_n (M := mX5_settle) (pc := 12) dX5_settle_12 rfl (k := ?_)
  refine g_iast (M := mX5_settle) (pc := 13) (by rfl) (by omega) (by omega) (by omega) dX5_settle_13 (kk := ?_)
  refine g_aload_n (M := mX5_settle) (pc := 14) dX5_settle_14 rfl (k := ?_)
  refine g_getr (M := mX5_settle) (pc := 15) (by rfl) fX5_5 kX5_24 dX5_settle_15 (by rfl) (kk := ?_)
  refine g_iload_n (M := mX5_settle) (pc := 18) dX5_settle_18 rfl (k := ?_)
  refine g_bipush (M := mX5_settle) (pc := 19) dX5_settle_19 (k := ?_)
  refine g_iast (M := mX5_settle) (pc := 21) (by rfl) (by omega) (by omega) (by omega) dX5_settle_21 (kk := ?_)
  refine g_vret (M := mX5_settle) (pc := 22) rfl dX5_settle_22 rfl ⟨_, rfl, rfl, ?_⟩
  rfl
set_option maxHeartbeats 4000000 in
set_option maxRecDepth 20000 in
theorem c_X5_build (Γ : KT) (t : Nat) (σ : Nat → Int → Int) (k : Int) (v : Int) (g : Int) (hI : InvX σ) (hk : 0 ≤ k ∧ k ≤ 6) (hv : 0 ≤ v ∧ v ≤ 9) (hg : 0 ≤ g ∧ g ≤ 99) : Ct Γ mX5_build 2 (0, 0) [vR Γ 33, vI k, vI v, vI g] (113, ρT t, σ) (pI 113 (ρT t) (fun r σ' => (R32 r) ∧ ((6 ≤ σ 33 0 ∧ r = -4 ∧ σ' = σ) ∨ (σ 33 0 < 6 ∧ r = σ 33 0 ∧ σ' = up (up (up (up (up (up σ 33 0 (σ 33 0 + 1)) 34 (σ 33 0) k) 35 (σ 33 0) v) 38 (σ 33 0) 15) 36 (σ 33 0) g) 37 (σ 33 0) 0)) ∧ (InvX σ') ∧ (Fr scCn σ σ'))) := by
  refine Ct.of rfl (Nat.le_of_ble_eq_true rfl) ?_
  show G Γ mX5_build 2 (0, 0) _ (0, 0) 0 [some (vR Γ 33), some (vI k), some (vI v), some (vI g), none] [] (113, ρT t, σ)
  refine g_aload_n (M := mX5_build) (pc := 0) dX5_build_0 rfl (k := ?_)
  refine g_get (M := mX5_build) (pc := 1) (ji := 0) (by rfl) fX5_0 kX5_55 dX5_build_1 (kk := fun hr1 => ?_)
  have hb1 := iv33_0 hI 0 (by omega) (by omega)
  refine g_bipush (M := mX5_build) (pc := 4) dX5_build_4 (k := ?_)
  refine g_icmp_lt (M := mX5_build) (pc := 6) (tgt := 12) (by omega) (by omega) dX5_build_6 (k1 := fun h6 => ?_) (k2 := fun h6 => ?_)
  · skip
    refine g_aload_n (M := mX5_build) (pc := 12) dX5_build_12 rfl (k := ?_)
    refine g_get (M := mX5_build) (pc := 13) (ji := 0) (by rfl) fX5_0 kX5_55 dX5_build_13 (kk := fun hr13 => ?_)
    refine g_istore_4 (M := mX5_build) (pc := 16) dX5_build_16 (k := ?_)
    refine g_aload_n (M := mX5_build) (pc := 18) dX5_build_18 rfl (k := ?_)
    refine g_dupR (M := mX5_build) (pc := 19) dX5_build_19 (k := ?_)
    refine g_get (M := mX5_build) (pc := 20) (ji := 0) (by rfl) fX5_0 kX5_55 dX5_build_20 (kk := fun hr20 => ?_)
    refine g_iconst (M := mX5_build) (pc := 23) dX5_build_23 (k := ?_)
    refine g_iadd (M := mX5_build) (pc := 24) dX5_build_24 (k := ?_)
    refine g_put (M := mX5_build) (pc := 25) (ji := 0) (by rfl) fX5_0 kX5_55 dX5_build_25 (by omega) (kk := ?_)
    refine g_aload_n (M := mX5_build) (pc := 28) dX5_build_28 rfl (k := ?_)
    refine g_iload (M := mX5_build) (pc := 29) dX5_build_29 rfl (k := ?_)
    refine g_iload_n (M := mX5_build) (pc := 31) dX5_build_31 rfl (k := ?_)
    refine g_iload_n (M := mX5_build) (pc := 32) dX5_build_32 rfl (k := ?_)
    refine g_cV3V (M := mX5_build) (pc := 33) (c_X5_settle Γ t _ _ _ _ (by first | omega | (simp only [up_same, up_cell, up_slot, ne_eq, not_false_eq_true, Nat.reduceEqDiff, Int.reduceEq, reduceCtorEq, Nat.reduceAdd, Int.reduceAdd, Int.reduceSub]; done) | (simp only [up_same, up_cell, up_slot, ne_eq, not_false_eq_true, Nat.reduceEqDiff, Int.reduceEq, reduceCtorEq, Nat.reduceAdd, Int.reduceAdd, Int.reduceSub]; omega)) (by first | omega | (simp only [up_same, up_cell, up_slot, ne_eq, not_false_eq_true, Nat.reduceEqDiff, Int.reduceEq, reduceCtorEq, Nat.reduceAdd, Int.reduceAdd, Int.reduceSub]; done) | (simp only [up_same, up_cell, up_slot, ne_eq, not_false_eq_true, Nat.reduceEqDiff, Int.reduceEq, reduceCtorEq, Nat.reduceAdd, Int.reduceAdd, Int.reduceSub]; omega)) (by first | omega | (simp only [up_same, up_cell, up_slot, ne_eq, not_false_eq_true, Nat.reduceEqDiff, Int.reduceEq, reduceCtorEq, Nat.reduceAdd, Int.reduceAdd, Int.reduceSub]; done) | (simp only [up_same, up_cell, up_slot, ne_eq, not_false_eq_true, Nat.reduceEqDiff, Int.reduceEq, reduceCtorEq, Nat.reduceAdd, Int.reduceAdd, Int.reduceSub]; omega))) qX5_settle vX5_settle sX5_settle kX5_61 dX5_build_33 (kk := ?_)
    rintro _ e; rw [e]; clear e
    refine g_aload_n (M := mX5_build) (pc := 36) dX5_build_36 rfl (k := ?_)
    refine g_getr (M := mX5_build) (pc := 37) (by rfl) fX5_3 kX5_18 dX5_build_37 (by rfl) (kk := ?_)
    refine g_iload (M := mX5_build) (pc := 40) dX5_build_40 rfl (k := ?_)
    refine g_iload_n (M := mX5_build) (pc := 42) dX5_build_42 rfl (k := ?_)
    refine g_iast (M := mX5_build) (pc := 43) (by rfl) (by omega) (by omega) (by omega) dX5_build_43 (kk := ?_)
    refine g_aload_n (M := mX5_build) (pc := 44) dX5_build_44 rfl (k := ?_)
    refine g_getr (M := mX5_build) (pc := 45) (by rfl) fX5_4 kX5_21 dX5_build_45 (by rfl) (kk := ?_)
    refine g_iload (M := mX5_build) (pc := 48) dX5_build_48 rfl (k := ?_)
    refine g_iconst (M := mX5_build) (pc := 50) dX5_build_50 (k := ?_)
    refine g_iast (M := mX5_build) (pc := 51) (by rfl) (by omega) (by omega) (by omega) dX5_build_51 (kk := ?_)
    refine g_iload (M := mX5_build) (pc := 52) dX5_build_52 rfl (k := ?_)
    refine g_iret (M := mX5_build) (pc := 54) rfl dX5_build_54 rfl ⟨_, _, rfl, rfl, ?_⟩
    refine ⟨?_, ?_, ?_, ?_⟩
    · omega
    · first | exact Or.inl ⟨by omega, rfl, rfl⟩ | exact Or.inr ⟨by omega, rfl, rfl⟩
    · refine iv_cell ?_ (by rfl); refine ivu36 ?_ (by omega) (by omega); refine iv_cell ?_ (by rfl); refine ivu35 ?_ (by omega) (by omega); refine ivu34 ?_ (by omega) (by omega); refine ivu33_0 ?_ (by omega) (by omega); exact hI
    · refine Fr.up ?_ (by first | rfl | (unfold scCn; simp; try omega)); refine Fr.up ?_ (by first | rfl | (unfold scCn; simp; try omega)); refine Fr.up ?_ (by first | rfl | (unfold scCn; simp; try omega)); refine Fr.up ?_ (by first | rfl | (unfold scCn; simp; try omega)); refine Fr.up ?_ (by first | rfl | (unfold scCn; simp; try omega)); refine Fr.up ?_ (by first | rfl | (unfold scCn; simp; try omega)); exact (Fr.rf)
  · skip
    refine g_bipush (M := mX5_build) (pc := 9) dX5_build_9 (k := ?_)
    refine g_iret (M := mX5_build) (pc := 11) rfl dX5_build_11 rfl ⟨_, _, rfl, rfl, ?_⟩
    refine ⟨?_, ?_, ?_, ?_⟩
    · omega
    · first | exact Or.inl ⟨by omega, rfl, rfl⟩ | exact Or.inr ⟨by omega, rfl, rfl⟩
    · exact hI
    · exact (Fr.rf)
set_option maxHeartbeats 4000000 in
set_option maxRecDepth 20000 in
theorem c_X5_wake (Γ : KT) (t : Nat) (σ : Nat → Int → Int) (s : Int) (k : Int) (q : Int) (hI : InvX σ) (hs : 0 ≤ s ∧ s ≤ 5) (hk : 0 ≤ k ∧ k ≤ 9) (hq : 0 ≤ q ∧ q ≤ 9) : Ct Γ mX5_wake 2 (0, 0) [vR Γ 33, vI s, vI k, vI q] (113, ρT t, σ) (pI 113 (ρT t) (fun r σ' => (R32 r) ∧ ((4 ≤ σ 33 6 ∧ r = -4 ∧ σ' = σ) ∨ (σ 33 6 < 4 ∧ r = σ 33 6 ∧ σ' = up (up (up (up σ 33 6 (σ 33 6 + 1)) 39 (σ 33 6) s) 40 (σ 33 6) k) 41 (σ 33 6) q)) ∧ (InvX σ') ∧ (Fr scCn σ σ'))) := by
  refine Ct.of rfl (Nat.le_of_ble_eq_true rfl) ?_
  show G Γ mX5_wake 2 (0, 0) _ (0, 0) 0 [some (vR Γ 33), some (vI s), some (vI k), some (vI q), none] [] (113, ρT t, σ)
  refine g_aload_n (M := mX5_wake) (pc := 0) dX5_wake_0 rfl (k := ?_)
  refine g_get (M := mX5_wake) (pc := 1) (ji := 6) (by rfl) fX5_6 kX5_58 dX5_wake_1 (kk := fun hr1 => ?_)
  have hb1 := iv33_6 hI 6 (by omega) (by omega)
  refine g_iconst (M := mX5_wake) (pc := 4) dX5_wake_4 (k := ?_)
  refine g_icmp_lt (M := mX5_wake) (pc := 5) (tgt := 11) (by omega) (by omega) dX5_wake_5 (k1 := fun h5 => ?_) (k2 := fun h5 => ?_)
  · skip
    refine g_aload_n (M := mX5_wake) (pc := 11) dX5_wake_11 rfl (k := ?_)
    refine g_get (M := mX5_wake) (pc := 12) (ji := 6) (by rfl) fX5_6 kX5_58 dX5_wake_12 (kk := fun hr12 => ?_)
    refine g_istore_4 (M := mX5_wake) (pc := 15) dX5_wake_15 (k := ?_)
    refine g_aload_n (M := mX5_wake) (pc := 17) dX5_wake_17 rfl (k := ?_)
    refine g_dupR (M := mX5_wake) (pc := 18) dX5_wake_18 (k := ?_)
    refine g_get (M := mX5_wake) (pc := 19) (ji := 6) (by rfl) fX5_6 kX5_58 dX5_wake_19 (kk := fun hr19 => ?_)
    refine g_iconst (M := mX5_wake) (pc := 22) dX5_wake_22 (k := ?_)
    refine g_iadd (M := mX5_wake) (pc := 23) dX5_wake_23 (k := ?_)
    refine g_put (M := mX5_wake) (pc := 24) (ji := 6) (by rfl) fX5_6 kX5_58 dX5_wake_24 (by omega) (kk := ?_)
    refine g_aload_n (M := mX5_wake) (pc := 27) dX5_wake_27 rfl (k := ?_)
    refine g_getr (M := mX5_wake) (pc := 28) (by rfl) fX5_7 kX5_27 dX5_wake_28 (by rfl) (kk := ?_)
    refine g_iload (M := mX5_wake) (pc := 31) dX5_wake_31 rfl (k := ?_)
    refine g_iload_n (M := mX5_wake) (pc := 33) dX5_wake_33 rfl (k := ?_)
    refine g_iast (M := mX5_wake) (pc := 34) (by rfl) (by omega) (by omega) (by omega) dX5_wake_34 (kk := ?_)
    refine g_aload_n (M := mX5_wake) (pc := 35) dX5_wake_35 rfl (k := ?_)
    refine g_getr (M := mX5_wake) (pc := 36) (by rfl) fX5_8 kX5_30 dX5_wake_36 (by rfl) (kk := ?_)
    refine g_iload (M := mX5_wake) (pc := 39) dX5_wake_39 rfl (k := ?_)
    refine g_iload_n (M := mX5_wake) (pc := 41) dX5_wake_41 rfl (k := ?_)
    refine g_iast (M := mX5_wake) (pc := 42) (by rfl) (by omega) (by omega) (by omega) dX5_wake_42 (kk := ?_)
    refine g_aload_n (M := mX5_wake) (pc := 43) dX5_wake_43 rfl (k := ?_)
    refine g_getr (M := mX5_wake) (pc := 44) (by rfl) fX5_9 kX5_33 dX5_wake_44 (by rfl) (kk := ?_)
    refine g_iload (M := mX5_wake) (pc := 47) dX5_wake_47 rfl (k := ?_)
    refine g_iload_n (M := mX5_wake) (pc := 49) dX5_wake_49 rfl (k := ?_)
    refine g_iast (M := mX5_wake) (pc := 50) (by rfl) (by omega) (by omega) (by omega) dX5_wake_50 (kk := ?_)
    refine g_iload (M := mX5_wake) (pc := 51) dX5_wake_51 rfl (k := ?_)
    refine g_iret (M := mX5_wake) (pc := 53) rfl dX5_wake_53 rfl ⟨_, _, rfl, rfl, ?_⟩
    refine ⟨?_, ?_, ?_, ?_⟩
    · omega
    · first | exact Or.inl ⟨by omega, rfl, rfl⟩ | exact Or.inr ⟨by omega, rfl, rfl⟩
    · refine ivu41 ?_ (by omega) (by omega); refine ivu40 ?_ (by omega) (by omega); refine ivu39 ?_ (by omega) (by omega); refine ivu33_6 ?_ (by omega) (by omega); exact hI
    · refine Fr.up ?_ (by first | rfl | (unfold scCn; simp; try omega)); refine Fr.up ?_ (by first | rfl | (unfold scCn; simp; try omega)); refine Fr.up ?_ (by first | rfl | (unfold scCn; simp; try omega)); refine Fr.up ?_ (by first | rfl | (unfold scCn; simp; try omega)); exact (Fr.rf)
  · skip
    refine g_bipush (M := mX5_wake) (pc := 8) dX5_wake_8 (k := ?_)
    refine g_iret (M := mX5_wake) (pc := 10) rfl dX5_wake_10 rfl ⟨_, _, rfl, rfl, ?_⟩
    refine ⟨?_, ?_, ?_, ?_⟩
    · omega
    · first | exact Or.inl ⟨by omega, rfl, rfl⟩ | exact Or.inr ⟨by omega, rfl, rfl⟩
    · exact hI
    · exact (Fr.rf)
set_option maxHeartbeats 4000000 in
set_option maxRecDepth 20000 in
theorem c_X4_add_42 (Γ : KT) (t : Nat) (σ : Nat → Int → Int) (x : Int) (y : Int) (hI : InvX σ) (hx : 0 ≤ x ∧ x ≤ 5) (hy : R32 y) : Ct Γ mX4_add 1 (0, 0) [vR Γ 42, vI x, vI y] (113, ρT t, σ) (pI 113 (ρT t) (fun r σ' => (R32 r) ∧ ((8 ≤ σ 42 2 ∧ r = -4 ∧ σ' = σ) ∨ (σ 42 2 < 8 ∧ r = σ 42 2 + 1 ∧ σ' = up (up (up σ 43 (σ 42 2) x) 44 (σ 42 2) y) 42 2 (σ 42 2 + 1))) ∧ (InvX σ') ∧ (Fr scC42 σ σ'))) := by
  refine Ct.of rfl (Nat.le_of_ble_eq_true rfl) ?_
  show G Γ mX4_add 1 (0, 0) _ (0, 0) 0 [some (vR Γ 42), some (vI x), some (vI y)] [] (113, ρT t, σ)
  refine g_aload_n (M := mX4_add) (pc := 0) dX4_add_0 rfl (k := ?_)
  refine g_get (M := mX4_add) (pc := 1) (ji := 2) (by rfl) fX4_2 kX4_24 dX4_add_1 (kk := fun hr1 => ?_)
  have hb1 := iv42_2 hI 2 (by omega) (by omega)
  refine g_aload_n (M := mX4_add) (pc := 4) dX4_add_4 rfl (k := ?_)
  refine g_getr (M := mX4_add) (pc := 5) (by rfl) fX4_0 kX4_15 dX4_add_5 (by rfl) (kk := ?_)
  refine g_alen (M := mX4_add) (pc := 8) (by rfl) (by decide) dX4_add_8 (kk := ?_)
  refine g_icmp_lt (M := mX4_add) (pc := 9) (tgt := 15) (by omega) (by omega) dX4_add_9 (k1 := fun h9 => ?_) (k2 := fun h9 => ?_)
  · skip
    refine g_aload_n (M := mX4_add) (pc := 15) dX4_add_15 rfl (k := ?_)
    refine g_getr (M := mX4_add) (pc := 16) (by rfl) fX4_0 kX4_15 dX4_add_16 (by rfl) (kk := ?_)
    refine g_aload_n (M := mX4_add) (pc := 19) dX4_add_19 rfl (k := ?_)
    refine g_get (M := mX4_add) (pc := 20) (ji := 2) (by rfl) fX4_2 kX4_24 dX4_add_20 (kk := fun hr20 => ?_)
    refine g_iload_n (M := mX4_add) (pc := 23) dX4_add_23 rfl (k := ?_)
    refine g_iast (M := mX4_add) (pc := 24) (by rfl) (by omega) (by omega) (by omega) dX4_add_24 (kk := ?_)
    refine g_aload_n (M := mX4_add) (pc := 25) dX4_add_25 rfl (k := ?_)
    refine g_getr (M := mX4_add) (pc := 26) (by rfl) fX4_1 kX4_21 dX4_add_26 (by rfl) (kk := ?_)
    refine g_aload_n (M := mX4_add) (pc := 29) dX4_add_29 rfl (k := ?_)
    refine g_get (M := mX4_add) (pc := 30) (ji := 2) (by rfl) fX4_2 kX4_24 dX4_add_30 (kk := fun hr30 => ?_)
    simp only [up_same, up_cell, up_slot, ne_eq, not_false_eq_true, Nat.reduceEqDiff, Int.reduceEq, reduceCtorEq, Nat.reduceAdd, Int.reduceAdd, Int.reduceSub] at hr30 ⊢
    refine g_iload_n (M := mX4_add) (pc := 33) dX4_add_33 rfl (k := ?_)
    refine g_iast (M := mX4_add) (pc := 34) (by rfl) (by omega) (by omega) (by omega) dX4_add_34 (kk := ?_)
    refine g_aload_n (M := mX4_add) (pc := 35) dX4_add_35 rfl (k := ?_)
    refine g_dupR (M := mX4_add) (pc := 36) dX4_add_36 (k := ?_)
    refine g_get (M := mX4_add) (pc := 37) (ji := 2) (by rfl) fX4_2 kX4_24 dX4_add_37 (kk := fun hr37 => ?_)
    simp only [up_same, up_cell, up_slot, ne_eq, not_false_eq_true, Nat.reduceEqDiff, Int.reduceEq, reduceCtorEq, Nat.reduceAdd, Int.reduceAdd, Int.reduceSub] at hr37 ⊢
    refine g_iconst (M := mX4_add) (pc := 40) dX4_add_40 (k := ?_)
    refine g_iadd (M := mX4_add) (pc := 41) dX4_add_41 (k := ?_)
    refine g_put (M := mX4_add) (pc := 42) (ji := 2) (by rfl) fX4_2 kX4_24 dX4_add_42 (by omega) (kk := ?_)
    refine g_aload_n (M := mX4_add) (pc := 45) dX4_add_45 rfl (k := ?_)
    refine g_get (M := mX4_add) (pc := 46) (ji := 2) (by rfl) fX4_2 kX4_24 dX4_add_46 (kk := fun hr46 => ?_)
    simp only [up_same, up_cell, up_slot, ne_eq, not_false_eq_true, Nat.reduceEqDiff, Int.reduceEq, reduceCtorEq, Nat.reduceAdd, Int.reduceAdd, Int.reduceSub] at hr46 ⊢
    refine g_iret (M := mX4_add) (pc := 49) rfl dX4_add_49 rfl ⟨_, _, rfl, rfl, ?_⟩
    refine ⟨?_, ?_, ?_, ?_⟩
    · omega
    · first | exact Or.inl ⟨by omega, rfl, rfl⟩ | exact Or.inr ⟨by omega, rfl, rfl⟩
    · refine ivu42 ?_ (by omega) (by omega); refine iv_cell ?_ (by rfl); refine ivu43 ?_ (by omega) (by omega); exact hI
    · refine Fr.up ?_ (by first | rfl | (unfold scC42; simp; try omega)); refine Fr.up ?_ (by first | rfl | (unfold scC42; simp; try omega)); refine Fr.up ?_ (by first | rfl | (unfold scC42; simp; try omega)); exact (Fr.rf)
  · skip
    refine g_bipush (M := mX4_add) (pc := 12) dX4_add_12 (k := ?_)
    refine g_iret (M := mX4_add) (pc := 14) rfl dX4_add_14 rfl ⟨_, _, rfl, rfl, ?_⟩
    refine ⟨?_, ?_, ?_, ?_⟩
    · omega
    · first | exact Or.inl ⟨by omega, rfl, rfl⟩ | exact Or.inr ⟨by omega, rfl, rfl⟩
    · exact hI
    · exact (Fr.rf)
set_option maxHeartbeats 4000000 in
set_option maxRecDepth 20000 in
theorem c_X4_empty_42 (Γ : KT) (t : Nat) (σ : Nat → Int → Int)  : Ct Γ mX4_empty 1 (0, 0) [vR Γ 42] (113, ρT t, σ) (pI 113 (ρT t) (fun r σ' => r = 0 ∧ σ' = (up σ 42 2 0))) := by
  refine Ct.of rfl (Nat.le_of_ble_eq_true rfl) ?_
  show G Γ mX4_empty 1 (0, 0) _ (0, 0) 0 [some (vR Γ 42)] [] (113, ρT t, σ)
  refine g_aload_n (M := mX4_empty) (pc := 0) dX4_empty_0 rfl (k := ?_)
  refine g_iconst (M := mX4_empty) (pc := 1) dX4_empty_1 (k := ?_)
  refine g_put (M := mX4_empty) (pc := 2) (ji := 2) (by rfl) fX4_2 kX4_24 dX4_empty_2 (by omega) (kk := ?_)
  refine g_aload_n (M := mX4_empty) (pc := 5) dX4_empty_5 rfl (k := ?_)
  refine g_get (M := mX4_empty) (pc := 6) (ji := 2) (by rfl) fX4_2 kX4_24 dX4_empty_6 (kk := fun hr6 => ?_)
  simp only [up_same, up_cell, up_slot, ne_eq, not_false_eq_true, Nat.reduceEqDiff, Int.reduceEq, reduceCtorEq, Nat.reduceAdd, Int.reduceAdd, Int.reduceSub] at hr6 ⊢
  refine g_iret (M := mX4_empty) (pc := 9) rfl dX4_empty_9 rfl ⟨_, _, rfl, rfl, ?_⟩
  exact ⟨rfl, rfl⟩
set_option maxHeartbeats 4000000 in
set_option maxRecDepth 20000 in
theorem c_X4_add_45 (Γ : KT) (t : Nat) (σ : Nat → Int → Int) (x : Int) (y : Int) (hI : InvX σ) (hx : 0 ≤ x ∧ x ≤ 5) (hy : R32 y) : Ct Γ mX4_add 1 (0, 0) [vR Γ 45, vI x, vI y] (113, ρT t, σ) (pI 113 (ρT t) (fun r σ' => (R32 r) ∧ ((8 ≤ σ 45 2 ∧ r = -4 ∧ σ' = σ) ∨ (σ 45 2 < 8 ∧ r = σ 45 2 + 1 ∧ σ' = up (up (up σ 46 (σ 45 2) x) 47 (σ 45 2) y) 45 2 (σ 45 2 + 1))) ∧ (InvX σ') ∧ (Fr scC45 σ σ'))) := by
  refine Ct.of rfl (Nat.le_of_ble_eq_true rfl) ?_
  show G Γ mX4_add 1 (0, 0) _ (0, 0) 0 [some (vR Γ 45), some (vI x), some (vI y)] [] (113, ρT t, σ)
  refine g_aload_n (M := mX4_add) (pc := 0) dX4_add_0 rfl (k := ?_)
  refine g_get (M := mX4_add) (pc := 1) (ji := 2) (by rfl) fX4_2 kX4_24 dX4_add_1 (kk := fun hr1 => ?_)
  have hb1 := iv45_2 hI 2 (by omega) (by omega)
  refine g_aload_n (M := mX4_add) (pc := 4) dX4_add_4 rfl (k := ?_)
  refine g_getr (M := mX4_add) (pc := 5) (by rfl) fX4_0 kX4_15 dX4_add_5 (by rfl) (kk := ?_)
  refine g_alen (M := mX4_add) (pc := 8) (by rfl) (by decide) dX4_add_8 (kk := ?_)
  refine g_icmp_lt (M := mX4_add) (pc := 9) (tgt := 15) (by omega) (by omega) dX4_add_9 (k1 := fun h9 => ?_) (k2 := fun h9 => ?_)
  · skip
    refine g_aload_n (M := mX4_add) (pc := 15) dX4_add_15 rfl (k := ?_)
    refine g_getr (M := mX4_add) (pc := 16) (by rfl) fX4_0 kX4_15 dX4_add_16 (by rfl) (kk := ?_)
    refine g_aload_n (M := mX4_add) (pc := 19) dX4_add_19 rfl (k := ?_)
    refine g_get (M := mX4_add) (pc := 20) (ji := 2) (by rfl) fX4_2 kX4_24 dX4_add_20 (kk := fun hr20 => ?_)
    refine g_iload_n (M := mX4_add) (pc := 23) dX4_add_23 rfl (k := ?_)
    refine g_iast (M := mX4_add) (pc := 24) (by rfl) (by omega) (by omega) (by omega) dX4_add_24 (kk := ?_)
    refine g_aload_n (M := mX4_add) (pc := 25) dX4_add_25 rfl (k := ?_)
    refine g_getr (M := mX4_add) (pc := 26) (by rfl) fX4_1 kX4_21 dX4_add_26 (by rfl) (kk := ?_)
    refine g_aload_n (M := mX4_add) (pc := 29) dX4_add_29 rfl (k := ?_)
    refine g_get (M := mX4_add) (pc := 30) (ji := 2) (by rfl) fX4_2 kX4_24 dX4_add_30 (kk := fun hr30 => ?_)
    simp only [up_same, up_cell, up_slot, ne_eq, not_false_eq_true, Nat.reduceEqDiff, Int.reduceEq, reduceCtorEq, Nat.reduceAdd, Int.reduceAdd, Int.reduceSub] at hr30 ⊢
    refine g_iload_n (M := mX4_add) (pc := 33) dX4_add_33 rfl (k := ?_)
    refine g_iast (M := mX4_add) (pc := 34) (by rfl) (by omega) (by omega) (by omega) dX4_add_34 (kk := ?_)
    refine g_aload_n (M := mX4_add) (pc := 35) dX4_add_35 rfl (k := ?_)
    refine g_dupR (M := mX4_add) (pc := 36) dX4_add_36 (k := ?_)
    refine g_get (M := mX4_add) (pc := 37) (ji := 2) (by rfl) fX4_2 kX4_24 dX4_add_37 (kk := fun hr37 => ?_)
    simp only [up_same, up_cell, up_slot, ne_eq, not_false_eq_true, Nat.reduceEqDiff, Int.reduceEq, reduceCtorEq, Nat.reduceAdd, Int.reduceAdd, Int.reduceSub] at hr37 ⊢
    refine g_iconst (M := mX4_add) (pc := 40) dX4_add_40 (k := ?_)
    refine g_iadd (M := mX4_add) (pc := 41) dX4_add_41 (k := ?_)
    refine g_put (M := mX4_add) (pc := 42) (ji := 2) (by rfl) fX4_2 kX4_24 dX4_add_42 (by omega) (kk := ?_)
    refine g_aload_n (M := mX4_add) (pc := 45) dX4_add_45 rfl (k := ?_)
    refine g_get (M := mX4_add) (pc := 46) (ji := 2) (by rfl) fX4_2 kX4_24 dX4_add_46 (kk := fun hr46 => ?_)
    simp only [up_same, up_cell, up_slot, ne_eq, not_false_eq_true, Nat.reduceEqDiff, Int.reduceEq, reduceCtorEq, Nat.reduceAdd, Int.reduceAdd, Int.reduceSub] at hr46 ⊢
    refine g_iret (M := mX4_add) (pc := 49) rfl dX4_add_49 rfl ⟨_, _, rfl, rfl, ?_⟩
    refine ⟨?_, ?_, ?_, ?_⟩
    · omega
    · first | exact Or.inl ⟨by omega, rfl, rfl⟩ | exact Or.inr ⟨by omega, rfl, rfl⟩
    · refine ivu45 ?_ (by omega) (by omega); refine iv_cell ?_ (by rfl); refine ivu46 ?_ (by omega) (by omega); exact hI
    · refine Fr.up ?_ (by first | rfl | (unfold scC45; simp; try omega)); refine Fr.up ?_ (by first | rfl | (unfold scC45; simp; try omega)); refine Fr.up ?_ (by first | rfl | (unfold scC45; simp; try omega)); exact (Fr.rf)
  · skip
    refine g_bipush (M := mX4_add) (pc := 12) dX4_add_12 (k := ?_)
    refine g_iret (M := mX4_add) (pc := 14) rfl dX4_add_14 rfl ⟨_, _, rfl, rfl, ?_⟩
    refine ⟨?_, ?_, ?_, ?_⟩
    · omega
    · first | exact Or.inl ⟨by omega, rfl, rfl⟩ | exact Or.inr ⟨by omega, rfl, rfl⟩
    · exact hI
    · exact (Fr.rf)
set_option maxHeartbeats 4000000 in
set_option maxRecDepth 20000 in
theorem c_X4_empty_45 (Γ : KT) (t : Nat) (σ : Nat → Int → Int)  : Ct Γ mX4_empty 1 (0, 0) [vR Γ 45] (113, ρT t, σ) (pI 113 (ρT t) (fun r σ' => r = 0 ∧ σ' = (up σ 45 2 0))) := by
  refine Ct.of rfl (Nat.le_of_ble_eq_true rfl) ?_
  show G Γ mX4_empty 1 (0, 0) _ (0, 0) 0 [some (vR Γ 45)] [] (113, ρT t, σ)
  refine g_aload_n (M := mX4_empty) (pc := 0) dX4_empty_0 rfl (k := ?_)
  refine g_iconst (M := mX4_empty) (pc := 1) dX4_empty_1 (k := ?_)
  refine g_put (M := mX4_empty) (pc := 2) (ji := 2) (by rfl) fX4_2 kX4_24 dX4_empty_2 (by omega) (kk := ?_)
  refine g_aload_n (M := mX4_empty) (pc := 5) dX4_empty_5 rfl (k := ?_)
  refine g_get (M := mX4_empty) (pc := 6) (ji := 2) (by rfl) fX4_2 kX4_24 dX4_empty_6 (kk := fun hr6 => ?_)
  simp only [up_same, up_cell, up_slot, ne_eq, not_false_eq_true, Nat.reduceEqDiff, Int.reduceEq, reduceCtorEq, Nat.reduceAdd, Int.reduceAdd, Int.reduceSub] at hr6 ⊢
  refine g_iret (M := mX4_empty) (pc := 9) rfl dX4_empty_9 rfl ⟨_, _, rfl, rfl, ?_⟩
  exact ⟨rfl, rfl⟩
set_option maxHeartbeats 4000000 in
set_option maxRecDepth 20000 in
theorem c_X4_add_48 (Γ : KT) (t : Nat) (σ : Nat → Int → Int) (x : Int) (y : Int) (hI : InvX σ) (hx : 0 ≤ x ∧ x ≤ 3) (hy : 0 ≤ y ∧ y ≤ 5) : Ct Γ mX4_add 1 (0, 0) [vR Γ 48, vI x, vI y] (113, ρT t, σ) (pI 113 (ρT t) (fun r σ' => (R32 r) ∧ ((12 ≤ σ 48 2 ∧ r = -4 ∧ σ' = σ) ∨ (σ 48 2 < 12 ∧ r = σ 48 2 + 1 ∧ σ' = up (up (up σ 49 (σ 48 2) x) 50 (σ 48 2) y) 48 2 (σ 48 2 + 1))) ∧ (InvX σ') ∧ (Fr scC48 σ σ'))) := by
  refine Ct.of rfl (Nat.le_of_ble_eq_true rfl) ?_
  show G Γ mX4_add 1 (0, 0) _ (0, 0) 0 [some (vR Γ 48), some (vI x), some (vI y)] [] (113, ρT t, σ)
  refine g_aload_n (M := mX4_add) (pc := 0) dX4_add_0 rfl (k := ?_)
  refine g_get (M := mX4_add) (pc := 1) (ji := 2) (by rfl) fX4_2 kX4_24 dX4_add_1 (kk := fun hr1 => ?_)
  have hb1 := iv48_2 hI 2 (by omega) (by omega)
  refine g_aload_n (M := mX4_add) (pc := 4) dX4_add_4 rfl (k := ?_)
  refine g_getr (M := mX4_add) (pc := 5) (by rfl) fX4_0 kX4_15 dX4_add_5 (by rfl) (kk := ?_)
  refine g_alen (M := mX4_add) (pc := 8) (by rfl) (by decide) dX4_add_8 (kk := ?_)
  refine g_icmp_lt (M := mX4_add) (pc := 9) (tgt := 15) (by omega) (by omega) dX4_add_9 (k1 := fun h9 => ?_) (k2 := fun h9 => ?_)
  · skip
    refine g_aload_n (M := mX4_add) (pc := 15) dX4_add_15 rfl (k := ?_)
    refine g_getr (M := mX4_add) (pc := 16) (by rfl) fX4_0 kX4_15 dX4_add_16 (by rfl) (kk := ?_)
    refine g_aload_n (M := mX4_add) (pc := 19) dX4_add_19 rfl (k := ?_)
    refine g_get (M := mX4_add) (pc := 20) (ji := 2) (by rfl) fX4_2 kX4_24 dX4_add_20 (kk := fun hr20 => ?_)
    refine g_iload_n (M := mX4_add) (pc := 23) dX4_add_23 rfl (k := ?_)
    refine g_iast (M := mX4_add) (pc := 24) (by rfl) (by omega) (by omega) (by omega) dX4_add_24 (kk := ?_)
    refine g_aload_n (M := mX4_add) (pc := 25) dX4_add_25 rfl (k := ?_)
    refine g_getr (M := mX4_add) (pc := 26) (by rfl) fX4_1 kX4_21 dX4_add_26 (by rfl) (kk := ?_)
    refine g_aload_n (M := mX4_add) (pc := 29) dX4_add_29 rfl (k := ?_)
    refine g_get (M := mX4_add) (pc := 30) (ji := 2) (by rfl) fX4_2 kX4_24 dX4_add_30 (kk := fun hr30 => ?_)
    simp only [up_same, up_cell, up_slot, ne_eq, not_false_eq_true, Nat.reduceEqDiff, Int.reduceEq, reduceCtorEq, Nat.reduceAdd, Int.reduceAdd, Int.reduceSub] at hr30 ⊢
    refine g_iload_n (M := mX4_add) (pc := 33) dX4_add_33 rfl (k := ?_)
    refine g_iast (M := mX4_add) (pc := 34) (by rfl) (by omega) (by omega) (by omega) dX4_add_34 (kk := ?_)
    refine g_aload_n (M := mX4_add) (pc := 35) dX4_add_35 rfl (k := ?_)
    refine g_dupR (M := mX4_add) (pc := 36) dX4_add_36 (k := ?_)
    refine g_get (M := mX4_add) (pc := 37) (ji := 2) (by rfl) fX4_2 kX4_24 dX4_add_37 (kk := fun hr37 => ?_)
    simp only [up_same, up_cell, up_slot, ne_eq, not_false_eq_true, Nat.reduceEqDiff, Int.reduceEq, reduceCtorEq, Nat.reduceAdd, Int.reduceAdd, Int.reduceSub] at hr37 ⊢
    refine g_iconst (M := mX4_add) (pc := 40) dX4_add_40 (k := ?_)
    refine g_iadd (M := mX4_add) (pc := 41) dX4_add_41 (k := ?_)
    refine g_put (M := mX4_add) (pc := 42) (ji := 2) (by rfl) fX4_2 kX4_24 dX4_add_42 (by omega) (kk := ?_)
    refine g_aload_n (M := mX4_add) (pc := 45) dX4_add_45 rfl (k := ?_)
    refine g_get (M := mX4_add) (pc := 46) (ji := 2) (by rfl) fX4_2 kX4_24 dX4_add_46 (kk := fun hr46 => ?_)
    simp only [up_same, up_cell, up_slot, ne_eq, not_false_eq_true, Nat.reduceEqDiff, Int.reduceEq, reduceCtorEq, Nat.reduceAdd, Int.reduceAdd, Int.reduceSub] at hr46 ⊢
    refine g_iret (M := mX4_add) (pc := 49) rfl dX4_add_49 rfl ⟨_, _, rfl, rfl, ?_⟩
    refine ⟨?_, ?_, ?_, ?_⟩
    · omega
    · first | exact Or.inl ⟨by omega, rfl, rfl⟩ | exact Or.inr ⟨by omega, rfl, rfl⟩
    · refine ivu48 ?_ (by omega) (by omega); refine ivu50 ?_ (by omega) (by omega); refine ivu49 ?_ (by omega) (by omega); exact hI
    · refine Fr.up ?_ (by first | rfl | (unfold scC48; simp; try omega)); refine Fr.up ?_ (by first | rfl | (unfold scC48; simp; try omega)); refine Fr.up ?_ (by first | rfl | (unfold scC48; simp; try omega)); exact (Fr.rf)
  · skip
    refine g_bipush (M := mX4_add) (pc := 12) dX4_add_12 (k := ?_)
    refine g_iret (M := mX4_add) (pc := 14) rfl dX4_add_14 rfl ⟨_, _, rfl, rfl, ?_⟩
    refine ⟨?_, ?_, ?_, ?_⟩
    · omega
    · first | exact Or.inl ⟨by omega, rfl, rfl⟩ | exact Or.inr ⟨by omega, rfl, rfl⟩
    · exact hI
    · exact (Fr.rf)
set_option maxHeartbeats 4000000 in
set_option maxRecDepth 20000 in
theorem c_X4_empty_48 (Γ : KT) (t : Nat) (σ : Nat → Int → Int)  : Ct Γ mX4_empty 1 (0, 0) [vR Γ 48] (113, ρT t, σ) (pI 113 (ρT t) (fun r σ' => r = 0 ∧ σ' = (up σ 48 2 0))) := by
  refine Ct.of rfl (Nat.le_of_ble_eq_true rfl) ?_
  show G Γ mX4_empty 1 (0, 0) _ (0, 0) 0 [some (vR Γ 48)] [] (113, ρT t, σ)
  refine g_aload_n (M := mX4_empty) (pc := 0) dX4_empty_0 rfl (k := ?_)
  refine g_iconst (M := mX4_empty) (pc := 1) dX4_empty_1 (k := ?_)
  refine g_put (M := mX4_empty) (pc := 2) (ji := 2) (by rfl) fX4_2 kX4_24 dX4_empty_2 (by omega) (kk := ?_)
  refine g_aload_n (M := mX4_empty) (pc := 5) dX4_empty_5 rfl (k := ?_)
  refine g_get (M := mX4_empty) (pc := 6) (ji := 2) (by rfl) fX4_2 kX4_24 dX4_empty_6 (kk := fun hr6 => ?_)
  simp only [up_same, up_cell, up_slot, ne_eq, not_false_eq_true, Nat.reduceEqDiff, Int.reduceEq, reduceCtorEq, Nat.reduceAdd, Int.reduceAdd, Int.reduceSub] at hr6 ⊢
  refine g_iret (M := mX4_empty) (pc := 9) rfl dX4_empty_9 rfl ⟨_, _, rfl, rfl, ?_⟩
  exact ⟨rfl, rfl⟩
set_option maxHeartbeats 4000000 in
set_option maxRecDepth 20000 in
theorem c_X4_copy_42 (Γ : KT) (t : Nat) (σ : Nat → Int → Int)  (hI : InvX σ) : Ct Γ mX4_copy 1 (0, 0) [vR Γ 42, vR Γ 10] (113, ρT t, σ) (pV 113 (ρT t) (fun σ' => (σ' 42 2 = σ 10 2) ∧ (∀ j, 0 ≤ j → j < σ 10 2 → σ' 43 j = σ 11 j) ∧ (∀ j, 0 ≤ j → j < σ 10 2 → σ' 44 j = σ 12 j) ∧ (InvX σ') ∧ (Fr scC42 σ σ'))) := by
  refine Ct.of rfl (Nat.le_of_ble_eq_true rfl) ?_
  show G Γ mX4_copy 1 (0, 0) _ (0, 0) 0 [some (vR Γ 42), some (vR Γ 10)] [] (113, ρT t, σ)
  refine g_aload_n (M := mX4_copy) (pc := 0) dX4_copy_0 rfl (k := ?_)
  refine g_aload_n (M := mX4_copy) (pc := 1) dX4_copy_1 rfl (k := ?_)
  refine g_get (M := mX4_copy) (pc := 2) (ji := 2) (by rfl) fX4_2 kX4_24 dX4_copy_2 (kk := fun hr2 => ?_)
  have hb2 := iv10_2 hI 2 (by omega) (by omega)
  refine g_aload_n (M := mX4_copy) (pc := 5) dX4_copy_5 rfl (k := ?_)
  refine g_getr (M := mX4_copy) (pc := 6) (by rfl) fX4_0 kX4_15 dX4_copy_6 (by rfl) (kk := ?_)
  refine g_alen (M := mX4_copy) (pc := 9) (by rfl) (by decide) dX4_copy_9 (kk := ?_)
  refine g_min2 (M := mX4_copy) (pc := 10) (by omega) (by omega) kmX4_28 nm_min dX4_copy_10 (by omega) rfl (k := fun c10 hz10 => ?_)
  refine g_put (M := mX4_copy) (pc := 13) (ji := 2) (by rfl) fX4_2 kX4_24 dX4_copy_13 (by omega) (kk := ?_)
  refine g_aload_n (M := mX4_copy) (pc := 16) dX4_copy_16 rfl (k := ?_)
  refine g_getr (M := mX4_copy) (pc := 17) (by rfl) fX4_0 kX4_15 dX4_copy_17 (by rfl) (kk := ?_)
  refine g_iconst (M := mX4_copy) (pc := 20) dX4_copy_20 (k := ?_)
  refine g_aload_n (M := mX4_copy) (pc := 21) dX4_copy_21 rfl (k := ?_)
  refine g_getr (M := mX4_copy) (pc := 22) (by rfl) fX4_0 kX4_15 dX4_copy_22 (by rfl) (kk := ?_)
  refine g_iconst (M := mX4_copy) (pc := 25) dX4_copy_25 (k := ?_)
  refine g_aload_n (M := mX4_copy) (pc := 26) dX4_copy_26 rfl (k := ?_)
  refine g_get (M := mX4_copy) (pc := 27) (ji := 2) (by rfl) fX4_2 kX4_24 dX4_copy_27 (kk := fun hr27 => ?_)
  simp only [up_same, up_cell, up_slot, ne_eq, not_false_eq_true, Nat.reduceEqDiff, Int.reduceEq, reduceCtorEq, Nat.reduceAdd, Int.reduceAdd, Int.reduceSub] at hr27 ⊢
  refine g_copy (M := mX4_copy) (pc := 30) cpX4_31 (by rfl) (by rfl) (by decide) (by omega) (by omega) (by omega) (by omega) (by omega) dX4_copy_30 (by omega) (kk := ?_)
  have hI30 := iv_cpy (σ := (up σ 42 2 c10)) (k0 := 11) (k1 := 43) (sp := 0) (dp := 0) (len := c10) (by refine ivu42 ?_ (by omega) (by omega); exact hI) (by decide +kernel) rfl
  have hF30 : Fr scC42 σ (cpy (up σ 42 2 c10) 11 43 0 0 c10) := by refine Fr.cpy ?_ (by intro j; first | rfl | (unfold scC42; simp; try omega)); refine Fr.up ?_ (by first | rfl | (unfold scC42; simp; try omega)); exact (Fr.rf)
  generalize hcp30 : cpy (up σ 42 2 c10) 11 43 0 0 c10 = τ30 at hI30 hF30 ⊢
  refine g_aload_n (M := mX4_copy) (pc := 33) dX4_copy_33 rfl (k := ?_)
  refine g_getr (M := mX4_copy) (pc := 34) (by rfl) fX4_1 kX4_21 dX4_copy_34 (by rfl) (kk := ?_)
  refine g_iconst (M := mX4_copy) (pc := 37) dX4_copy_37 (k := ?_)
  refine g_aload_n (M := mX4_copy) (pc := 38) dX4_copy_38 rfl (k := ?_)
  refine g_getr (M := mX4_copy) (pc := 39) (by rfl) fX4_1 kX4_21 dX4_copy_39 (by rfl) (kk := ?_)
  refine g_iconst (M := mX4_copy) (pc := 42) dX4_copy_42 (k := ?_)
  refine g_aload_n (M := mX4_copy) (pc := 43) dX4_copy_43 rfl (k := ?_)
  refine g_get (M := mX4_copy) (pc := 44) (ji := 2) (by rfl) fX4_2 kX4_24 dX4_copy_44 (kk := fun hr44 => ?_)
  have hb44 := iv42_2 hI30 2 (by omega) (by omega)
  refine g_copy (M := mX4_copy) (pc := 47) cpX4_31 (by rfl) (by rfl) (by decide) (by omega) (by omega) (by omega) (by omega) (by omega) dX4_copy_47 (by omega) (kk := ?_)
  have hI47 := iv_cpy (σ := τ30) (k0 := 12) (k1 := 44) (sp := 0) (dp := 0) (len := τ30 42 2) (by exact hI30) (by decide +kernel) rfl
  have hF47 : Fr scC42 σ (cpy τ30 12 44 0 0 (τ30 42 2)) := by refine Fr.cpy ?_ (by intro j; first | rfl | (unfold scC42; simp; try omega)); exact hF30
  generalize hcp47 : cpy τ30 12 44 0 0 (τ30 42 2) = τ47 at hI47 hF47 ⊢
  refine g_vret (M := mX4_copy) (pc := 50) rfl dX4_copy_50 rfl ⟨_, rfl, rfl, ?_⟩
  refine ⟨?_, ?_, ?_, ?_, ?_⟩
  · have hc : c10 = σ 10 2 := (by omega); rw [← hcp47, ← hcp30]; simp [cpy, up, hc]
  · have hc : c10 = σ 10 2 := (by omega); intro j h0 h1; rw [← hcp47, ← hcp30]; simp [cpy, up, hc, h0, h1]
  · have hc : c10 = σ 10 2 := (by omega); intro j h0 h1; rw [← hcp47, ← hcp30]; simp [cpy, up, hc, h0, h1]
  · exact hI47
  · exact hF47
set_option maxHeartbeats 4000000 in
set_option maxRecDepth 20000 in
theorem c_X4_copy_45 (Γ : KT) (t : Nat) (σ : Nat → Int → Int)  (hI : InvX σ) : Ct Γ mX4_copy 1 (0, 0) [vR Γ 45, vR Γ 13] (113, ρT t, σ) (pV 113 (ρT t) (fun σ' => (σ' 45 2 = σ 13 2) ∧ (∀ j, 0 ≤ j → j < σ 13 2 → σ' 46 j = σ 14 j) ∧ (∀ j, 0 ≤ j → j < σ 13 2 → σ' 47 j = σ 15 j) ∧ (InvX σ') ∧ (Fr scC45 σ σ'))) := by
  refine Ct.of rfl (Nat.le_of_ble_eq_true rfl) ?_
  show G Γ mX4_copy 1 (0, 0) _ (0, 0) 0 [some (vR Γ 45), some (vR Γ 13)] [] (113, ρT t, σ)
  refine g_aload_n (M := mX4_copy) (pc := 0) dX4_copy_0 rfl (k := ?_)
  refine g_aload_n (M := mX4_copy) (pc := 1) dX4_copy_1 rfl (k := ?_)
  refine g_get (M := mX4_copy) (pc := 2) (ji := 2) (by rfl) fX4_2 kX4_24 dX4_copy_2 (kk := fun hr2 => ?_)
  have hb2 := iv13_2 hI 2 (by omega) (by omega)
  refine g_aload_n (M := mX4_copy) (pc := 5) dX4_copy_5 rfl (k := ?_)
  refine g_getr (M := mX4_copy) (pc := 6) (by rfl) fX4_0 kX4_15 dX4_copy_6 (by rfl) (kk := ?_)
  refine g_alen (M := mX4_copy) (pc := 9) (by rfl) (by decide) dX4_copy_9 (kk := ?_)
  refine g_min2 (M := mX4_copy) (pc := 10) (by omega) (by omega) kmX4_28 nm_min dX4_copy_10 (by omega) rfl (k := fun c10 hz10 => ?_)
  refine g_put (M := mX4_copy) (pc := 13) (ji := 2) (by rfl) fX4_2 kX4_24 dX4_copy_13 (by omega) (kk := ?_)
  refine g_aload_n (M := mX4_copy) (pc := 16) dX4_copy_16 rfl (k := ?_)
  refine g_getr (M := mX4_copy) (pc := 17) (by rfl) fX4_0 kX4_15 dX4_copy_17 (by rfl) (kk := ?_)
  refine g_iconst (M := mX4_copy) (pc := 20) dX4_copy_20 (k := ?_)
  refine g_aload_n (M := mX4_copy) (pc := 21) dX4_copy_21 rfl (k := ?_)
  refine g_getr (M := mX4_copy) (pc := 22) (by rfl) fX4_0 kX4_15 dX4_copy_22 (by rfl) (kk := ?_)
  refine g_iconst (M := mX4_copy) (pc := 25) dX4_copy_25 (k := ?_)
  refine g_aload_n (M := mX4_copy) (pc := 26) dX4_copy_26 rfl (k := ?_)
  refine g_get (M := mX4_copy) (pc := 27) (ji := 2) (by rfl) fX4_2 kX4_24 dX4_copy_27 (kk := fun hr27 => ?_)
  simp only [up_same, up_cell, up_slot, ne_eq, not_false_eq_true, Nat.reduceEqDiff, Int.reduceEq, reduceCtorEq, Nat.reduceAdd, Int.reduceAdd, Int.reduceSub] at hr27 ⊢
  refine g_copy (M := mX4_copy) (pc := 30) cpX4_31 (by rfl) (by rfl) (by decide) (by omega) (by omega) (by omega) (by omega) (by omega) dX4_copy_30 (by omega) (kk := ?_)
  have hI30 := iv_cpy (σ := (up σ 45 2 c10)) (k0 := 14) (k1 := 46) (sp := 0) (dp := 0) (len := c10) (by refine ivu45 ?_ (by omega) (by omega); exact hI) (by decide +kernel) rfl
  have hF30 : Fr scC45 σ (cpy (up σ 45 2 c10) 14 46 0 0 c10) := by refine Fr.cpy ?_ (by intro j; first | rfl | (unfold scC45; simp; try omega)); refine Fr.up ?_ (by first | rfl | (unfold scC45; simp; try omega)); exact (Fr.rf)
  generalize hcp30 : cpy (up σ 45 2 c10) 14 46 0 0 c10 = τ30 at hI30 hF30 ⊢
  refine g_aload_n (M := mX4_copy) (pc := 33) dX4_copy_33 rfl (k := ?_)
  refine g_getr (M := mX4_copy) (pc := 34) (by rfl) fX4_1 kX4_21 dX4_copy_34 (by rfl) (kk := ?_)
  refine g_iconst (M := mX4_copy) (pc := 37) dX4_copy_37 (k := ?_)
  refine g_aload_n (M := mX4_copy) (pc := 38) dX4_copy_38 rfl (k := ?_)
  refine g_getr (M := mX4_copy) (pc := 39) (by rfl) fX4_1 kX4_21 dX4_copy_39 (by rfl) (kk := ?_)
  refine g_iconst (M := mX4_copy) (pc := 42) dX4_copy_42 (k := ?_)
  refine g_aload_n (M := mX4_copy) (pc := 43) dX4_copy_43 rfl (k := ?_)
  refine g_get (M := mX4_copy) (pc := 44) (ji := 2) (by rfl) fX4_2 kX4_24 dX4_copy_44 (kk := fun hr44 => ?_)
  have hb44 := iv45_2 hI30 2 (by omega) (by omega)
  refine g_copy (M := mX4_copy) (pc := 47) cpX4_31 (by rfl) (by rfl) (by decide) (by omega) (by omega) (by omega) (by omega) (by omega) dX4_copy_47 (by omega) (kk := ?_)
  have hI47 := iv_cpy (σ := τ30) (k0 := 15) (k1 := 47) (sp := 0) (dp := 0) (len := τ30 45 2) (by exact hI30) (by decide +kernel) rfl
  have hF47 : Fr scC45 σ (cpy τ30 15 47 0 0 (τ30 45 2)) := by refine Fr.cpy ?_ (by intro j; first | rfl | (unfold scC45; simp; try omega)); exact hF30
  generalize hcp47 : cpy τ30 15 47 0 0 (τ30 45 2) = τ47 at hI47 hF47 ⊢
  refine g_vret (M := mX4_copy) (pc := 50) rfl dX4_copy_50 rfl ⟨_, rfl, rfl, ?_⟩
  refine ⟨?_, ?_, ?_, ?_, ?_⟩
  · have hc : c10 = σ 13 2 := (by omega); rw [← hcp47, ← hcp30]; simp [cpy, up, hc]
  · have hc : c10 = σ 13 2 := (by omega); intro j h0 h1; rw [← hcp47, ← hcp30]; simp [cpy, up, hc, h0, h1]
  · have hc : c10 = σ 13 2 := (by omega); intro j h0 h1; rw [← hcp47, ← hcp30]; simp [cpy, up, hc, h0, h1]
  · exact hI47
  · exact hF47
set_option maxHeartbeats 4000000 in
set_option maxRecDepth 20000 in
theorem c_X4_copy_48 (Γ : KT) (t : Nat) (σ : Nat → Int → Int)  (hI : InvX σ) : Ct Γ mX4_copy 1 (0, 0) [vR Γ 48, vR Γ 16] (113, ρT t, σ) (pV 113 (ρT t) (fun σ' => (σ' 48 2 = σ 16 2) ∧ (∀ j, 0 ≤ j → j < σ 16 2 → σ' 49 j = σ 17 j) ∧ (∀ j, 0 ≤ j → j < σ 16 2 → σ' 50 j = σ 18 j) ∧ (InvX σ') ∧ (Fr scC48 σ σ'))) := by
  refine Ct.of rfl (Nat.le_of_ble_eq_true rfl) ?_
  show G Γ mX4_copy 1 (0, 0) _ (0, 0) 0 [some (vR Γ 48), some (vR Γ 16)] [] (113, ρT t, σ)
  refine g_aload_n (M := mX4_copy) (pc := 0) dX4_copy_0 rfl (k := ?_)
  refine g_aload_n (M := mX4_copy) (pc := 1) dX4_copy_1 rfl (k := ?_)
  refine g_get (M := mX4_copy) (pc := 2) (ji := 2) (by rfl) fX4_2 kX4_24 dX4_copy_2 (kk := fun hr2 => ?_)
  have hb2 := iv16_2 hI 2 (by omega) (by omega)
  refine g_aload_n (M := mX4_copy) (pc := 5) dX4_copy_5 rfl (k := ?_)
  refine g_getr (M := mX4_copy) (pc := 6) (by rfl) fX4_0 kX4_15 dX4_copy_6 (by rfl) (kk := ?_)
  refine g_alen (M := mX4_copy) (pc := 9) (by rfl) (by decide) dX4_copy_9 (kk := ?_)
  refine g_min2 (M := mX4_copy) (pc := 10) (by omega) (by omega) kmX4_28 nm_min dX4_copy_10 (by omega) rfl (k := fun c10 hz10 => ?_)
  refine g_put (M := mX4_copy) (pc := 13) (ji := 2) (by rfl) fX4_2 kX4_24 dX4_copy_13 (by omega) (kk := ?_)
  refine g_aload_n (M := mX4_copy) (pc := 16) dX4_copy_16 rfl (k := ?_)
  refine g_getr (M := mX4_copy) (pc := 17) (by rfl) fX4_0 kX4_15 dX4_copy_17 (by rfl) (kk := ?_)
  refine g_iconst (M := mX4_copy) (pc := 20) dX4_copy_20 (k := ?_)
  refine g_aload_n (M := mX4_copy) (pc := 21) dX4_copy_21 rfl (k := ?_)
  refine g_getr (M := mX4_copy) (pc := 22) (by rfl) fX4_0 kX4_15 dX4_copy_22 (by rfl) (kk := ?_)
  refine g_iconst (M := mX4_copy) (pc := 25) dX4_copy_25 (k := ?_)
  refine g_aload_n (M := mX4_copy) (pc := 26) dX4_copy_26 rfl (k := ?_)
  refine g_get (M := mX4_copy) (pc := 27) (ji := 2) (by rfl) fX4_2 kX4_24 dX4_copy_27 (kk := fun hr27 => ?_)
  simp only [up_same, up_cell, up_slot, ne_eq, not_false_eq_true, Nat.reduceEqDiff, Int.reduceEq, reduceCtorEq, Nat.reduceAdd, Int.reduceAdd, Int.reduceSub] at hr27 ⊢
  refine g_copy (M := mX4_copy) (pc := 30) cpX4_31 (by rfl) (by rfl) (by decide) (by omega) (by omega) (by omega) (by omega) (by omega) dX4_copy_30 (by omega) (kk := ?_)
  have hI30 := iv_cpy (σ := (up σ 48 2 c10)) (k0 := 17) (k1 := 49) (sp := 0) (dp := 0) (len := c10) (by refine ivu48 ?_ (by omega) (by omega); exact hI) (by decide +kernel) rfl
  have hF30 : Fr scC48 σ (cpy (up σ 48 2 c10) 17 49 0 0 c10) := by refine Fr.cpy ?_ (by intro j; first | rfl | (unfold scC48; simp; try omega)); refine Fr.up ?_ (by first | rfl | (unfold scC48; simp; try omega)); exact (Fr.rf)
  generalize hcp30 : cpy (up σ 48 2 c10) 17 49 0 0 c10 = τ30 at hI30 hF30 ⊢
  refine g_aload_n (M := mX4_copy) (pc := 33) dX4_copy_33 rfl (k := ?_)
  refine g_getr (M := mX4_copy) (pc := 34) (by rfl) fX4_1 kX4_21 dX4_copy_34 (by rfl) (kk := ?_)
  refine g_iconst (M := mX4_copy) (pc := 37) dX4_copy_37 (k := ?_)
  refine g_aload_n (M := mX4_copy) (pc := 38) dX4_copy_38 rfl (k := ?_)
  refine g_getr (M := mX4_copy) (pc := 39) (by rfl) fX4_1 kX4_21 dX4_copy_39 (by rfl) (kk := ?_)
  refine g_iconst (M := mX4_copy) (pc := 42) dX4_copy_42 (k := ?_)
  refine g_aload_n (M := mX4_copy) (pc := 43) dX4_copy_43 rfl (k := ?_)
  refine g_get (M := mX4_copy) (pc := 44) (ji := 2) (by rfl) fX4_2 kX4_24 dX4_copy_44 (kk := fun hr44 => ?_)
  have hb44 := iv48_2 hI30 2 (by omega) (by omega)
  refine g_copy (M := mX4_copy) (pc := 47) cpX4_31 (by rfl) (by rfl) (by decide) (by omega) (by omega) (by omega) (by omega) (by omega) dX4_copy_47 (by omega) (kk := ?_)
  have hI47 := iv_cpy (σ := τ30) (k0 := 18) (k1 := 50) (sp := 0) (dp := 0) (len := τ30 48 2) (by exact hI30) (by decide +kernel) rfl
  have hF47 : Fr scC48 σ (cpy τ30 18 50 0 0 (τ30 48 2)) := by refine Fr.cpy ?_ (by intro j; first | rfl | (unfold scC48; simp; try omega)); exact hF30
  generalize hcp47 : cpy τ30 18 50 0 0 (τ30 48 2) = τ47 at hI47 hF47 ⊢
  refine g_vret (M := mX4_copy) (pc := 50) rfl dX4_copy_50 rfl ⟨_, rfl, rfl, ?_⟩
  refine ⟨?_, ?_, ?_, ?_, ?_⟩
  · have hc : c10 = σ 16 2 := (by omega); rw [← hcp47, ← hcp30]; simp [cpy, up, hc]
  · have hc : c10 = σ 16 2 := (by omega); intro j h0 h1; rw [← hcp47, ← hcp30]; simp [cpy, up, hc, h0, h1]
  · have hc : c10 = σ 16 2 := (by omega); intro j h0 h1; rw [← hcp47, ← hcp30]; simp [cpy, up, hc, h0, h1]
  · exact hI47
  · exact hF47
set_option maxHeartbeats 4000000 in
set_option maxRecDepth 20000 in
theorem c_X4_copy_10 (Γ : KT) (t : Nat) (σ : Nat → Int → Int)  (hI : InvX σ) : Ct Γ mX4_copy 1 (0, 0) [vR Γ 10, vR Γ 42] (113, ρT t, σ) (pV 113 (ρT t) (fun σ' => (σ' 10 2 = σ 42 2) ∧ (∀ j, 0 ≤ j → j < σ 42 2 → σ' 11 j = σ 43 j) ∧ (∀ j, 0 ≤ j → j < σ 42 2 → σ' 12 j = σ 44 j) ∧ (InvX σ') ∧ (Fr scC10 σ σ'))) := by
  refine Ct.of rfl (Nat.le_of_ble_eq_true rfl) ?_
  show G Γ mX4_copy 1 (0, 0) _ (0, 0) 0 [some (vR Γ 10), some (vR Γ 42)] [] (113, ρT t, σ)
  refine g_aload_n (M := mX4_copy) (pc := 0) dX4_copy_0 rfl (k := ?_)
  refine g_aload_n (M := mX4_copy) (pc := 1) dX4_copy_1 rfl (k := ?_)
  refine g_get (M := mX4_copy) (pc := 2) (ji := 2) (by rfl) fX4_2 kX4_24 dX4_copy_2 (kk := fun hr2 => ?_)
  have hb2 := iv42_2 hI 2 (by omega) (by omega)
  refine g_aload_n (M := mX4_copy) (pc := 5) dX4_copy_5 rfl (k := ?_)
  refine g_getr (M := mX4_copy) (pc := 6) (by rfl) fX4_0 kX4_15 dX4_copy_6 (by rfl) (kk := ?_)
  refine g_alen (M := mX4_copy) (pc := 9) (by rfl) (by decide) dX4_copy_9 (kk := ?_)
  refine g_min2 (M := mX4_copy) (pc := 10) (by omega) (by omega) kmX4_28 nm_min dX4_copy_10 (by omega) rfl (k := fun c10 hz10 => ?_)
  refine g_put (M := mX4_copy) (pc := 13) (ji := 2) (by rfl) fX4_2 kX4_24 dX4_copy_13 (by omega) (kk := ?_)
  refine g_aload_n (M := mX4_copy) (pc := 16) dX4_copy_16 rfl (k := ?_)
  refine g_getr (M := mX4_copy) (pc := 17) (by rfl) fX4_0 kX4_15 dX4_copy_17 (by rfl) (kk := ?_)
  refine g_iconst (M := mX4_copy) (pc := 20) dX4_copy_20 (k := ?_)
  refine g_aload_n (M := mX4_copy) (pc := 21) dX4_copy_21 rfl (k := ?_)
  refine g_getr (M := mX4_copy) (pc := 22) (by rfl) fX4_0 kX4_15 dX4_copy_22 (by rfl) (kk := ?_)
  refine g_iconst (M := mX4_copy) (pc := 25) dX4_copy_25 (k := ?_)
  refine g_aload_n (M := mX4_copy) (pc := 26) dX4_copy_26 rfl (k := ?_)
  refine g_get (M := mX4_copy) (pc := 27) (ji := 2) (by rfl) fX4_2 kX4_24 dX4_copy_27 (kk := fun hr27 => ?_)
  simp only [up_same, up_cell, up_slot, ne_eq, not_false_eq_true, Nat.reduceEqDiff, Int.reduceEq, reduceCtorEq, Nat.reduceAdd, Int.reduceAdd, Int.reduceSub] at hr27 ⊢
  refine g_copy (M := mX4_copy) (pc := 30) cpX4_31 (by rfl) (by rfl) (by decide) (by omega) (by omega) (by omega) (by omega) (by omega) dX4_copy_30 (by omega) (kk := ?_)
  have hI30 := iv_cpy (σ := (up σ 10 2 c10)) (k0 := 43) (k1 := 11) (sp := 0) (dp := 0) (len := c10) (by refine ivu10 ?_ (by omega) (by omega); exact hI) (by decide +kernel) rfl
  have hF30 : Fr scC10 σ (cpy (up σ 10 2 c10) 43 11 0 0 c10) := by refine Fr.cpy ?_ (by intro j; first | rfl | (unfold scC10; simp; try omega)); refine Fr.up ?_ (by first | rfl | (unfold scC10; simp; try omega)); exact (Fr.rf)
  generalize hcp30 : cpy (up σ 10 2 c10) 43 11 0 0 c10 = τ30 at hI30 hF30 ⊢
  refine g_aload_n (M := mX4_copy) (pc := 33) dX4_copy_33 rfl (k := ?_)
  refine g_getr (M := mX4_copy) (pc := 34) (by rfl) fX4_1 kX4_21 dX4_copy_34 (by rfl) (kk := ?_)
  refine g_iconst (M := mX4_copy) (pc := 37) dX4_copy_37 (k := ?_)
  refine g_aload_n (M := mX4_copy) (pc := 38) dX4_copy_38 rfl (k := ?_)
  refine g_getr (M := mX4_copy) (pc := 39) (by rfl) fX4_1 kX4_21 dX4_copy_39 (by rfl) (kk := ?_)
  refine g_iconst (M := mX4_copy) (pc := 42) dX4_copy_42 (k := ?_)
  refine g_aload_n (M := mX4_copy) (pc := 43) dX4_copy_43 rfl (k := ?_)
  refine g_get (M := mX4_copy) (pc := 44) (ji := 2) (by rfl) fX4_2 kX4_24 dX4_copy_44 (kk := fun hr44 => ?_)
  have hb44 := iv10_2 hI30 2 (by omega) (by omega)
  refine g_copy (M := mX4_copy) (pc := 47) cpX4_31 (by rfl) (by rfl) (by decide) (by omega) (by omega) (by omega) (by omega) (by omega) dX4_copy_47 (by omega) (kk := ?_)
  have hI47 := iv_cpy (σ := τ30) (k0 := 44) (k1 := 12) (sp := 0) (dp := 0) (len := τ30 10 2) (by exact hI30) (by decide +kernel) rfl
  have hF47 : Fr scC10 σ (cpy τ30 44 12 0 0 (τ30 10 2)) := by refine Fr.cpy ?_ (by intro j; first | rfl | (unfold scC10; simp; try omega)); exact hF30
  generalize hcp47 : cpy τ30 44 12 0 0 (τ30 10 2) = τ47 at hI47 hF47 ⊢
  refine g_vret (M := mX4_copy) (pc := 50) rfl dX4_copy_50 rfl ⟨_, rfl, rfl, ?_⟩
  refine ⟨?_, ?_, ?_, ?_, ?_⟩
  · have hc : c10 = σ 42 2 := (by omega); rw [← hcp47, ← hcp30]; simp [cpy, up, hc]
  · have hc : c10 = σ 42 2 := (by omega); intro j h0 h1; rw [← hcp47, ← hcp30]; simp [cpy, up, hc, h0, h1]
  · have hc : c10 = σ 42 2 := (by omega); intro j h0 h1; rw [← hcp47, ← hcp30]; simp [cpy, up, hc, h0, h1]
  · exact hI47
  · exact hF47
set_option maxHeartbeats 4000000 in
set_option maxRecDepth 20000 in
theorem c_X4_copy_13 (Γ : KT) (t : Nat) (σ : Nat → Int → Int)  (hI : InvX σ) : Ct Γ mX4_copy 1 (0, 0) [vR Γ 13, vR Γ 45] (113, ρT t, σ) (pV 113 (ρT t) (fun σ' => (σ' 13 2 = σ 45 2) ∧ (∀ j, 0 ≤ j → j < σ 45 2 → σ' 14 j = σ 46 j) ∧ (∀ j, 0 ≤ j → j < σ 45 2 → σ' 15 j = σ 47 j) ∧ (InvX σ') ∧ (Fr scC13 σ σ'))) := by
  refine Ct.of rfl (Nat.le_of_ble_eq_true rfl) ?_
  show G Γ mX4_copy 1 (0, 0) _ (0, 0) 0 [some (vR Γ 13), some (vR Γ 45)] [] (113, ρT t, σ)
  refine g_aload_n (M := mX4_copy) (pc := 0) dX4_copy_0 rfl (k := ?_)
  refine g_aload_n (M := mX4_copy) (pc := 1) dX4_copy_1 rfl (k := ?_)
  refine g_get (M := mX4_copy) (pc := 2) (ji := 2) (by rfl) fX4_2 kX4_24 dX4_copy_2 (kk := fun hr2 => ?_)
  have hb2 := iv45_2 hI 2 (by omega) (by omega)
  refine g_aload_n (M := mX4_copy) (pc := 5) dX4_copy_5 rfl (k := ?_)
  refine g_getr (M := mX4_copy) (pc := 6) (by rfl) fX4_0 kX4_15 dX4_copy_6 (by rfl) (kk := ?_)
  refine g_alen (M := mX4_copy) (pc := 9) (by rfl) (by decide) dX4_copy_9 (kk := ?_)
  refine g_min2 (M := mX4_copy) (pc := 10) (by omega) (by omega) kmX4_28 nm_min dX4_copy_10 (by omega) rfl (k := fun c10 hz10 => ?_)
  refine g_put (M := mX4_copy) (pc := 13) (ji := 2) (by rfl) fX4_2 kX4_24 dX4_copy_13 (by omega) (kk := ?_)
  refine g_aload_n (M := mX4_copy) (pc := 16) dX4_copy_16 rfl (k := ?_)
  refine g_getr (M := mX4_copy) (pc := 17) (by rfl) fX4_0 kX4_15 dX4_copy_17 (by rfl) (kk := ?_)
  refine g_iconst (M := mX4_copy) (pc := 20) dX4_copy_20 (k := ?_)
  refine g_aload_n (M := mX4_copy) (pc := 21) dX4_copy_21 rfl (k := ?_)
  refine g_getr (M := mX4_copy) (pc := 22) (by rfl) fX4_0 kX4_15 dX4_copy_22 (by rfl) (kk := ?_)
  refine g_iconst (M := mX4_copy) (pc := 25) dX4_copy_25 (k := ?_)
  refine g_aload_n (M := mX4_copy) (pc := 26) dX4_copy_26 rfl (k := ?_)
  refine g_get (M := mX4_copy) (pc := 27) (ji := 2) (by rfl) fX4_2 kX4_24 dX4_copy_27 (kk := fun hr27 => ?_)
  simp only [up_same, up_cell, up_slot, ne_eq, not_false_eq_true, Nat.reduceEqDiff, Int.reduceEq, reduceCtorEq, Nat.reduceAdd, Int.reduceAdd, Int.reduceSub] at hr27 ⊢
  refine g_copy (M := mX4_copy) (pc := 30) cpX4_31 (by rfl) (by rfl) (by decide) (by omega) (by omega) (by omega) (by omega) (by omega) dX4_copy_30 (by omega) (kk := ?_)
  have hI30 := iv_cpy (σ := (up σ 13 2 c10)) (k0 := 46) (k1 := 14) (sp := 0) (dp := 0) (len := c10) (by refine ivu13 ?_ (by omega) (by omega); exact hI) (by decide +kernel) rfl
  have hF30 : Fr scC13 σ (cpy (up σ 13 2 c10) 46 14 0 0 c10) := by refine Fr.cpy ?_ (by intro j; first | rfl | (unfold scC13; simp; try omega)); refine Fr.up ?_ (by first | rfl | (unfold scC13; simp; try omega)); exact (Fr.rf)
  generalize hcp30 : cpy (up σ 13 2 c10) 46 14 0 0 c10 = τ30 at hI30 hF30 ⊢
  refine g_aload_n (M := mX4_copy) (pc := 33) dX4_copy_33 rfl (k := ?_)
  refine g_getr (M := mX4_copy) (pc := 34) (by rfl) fX4_1 kX4_21 dX4_copy_34 (by rfl) (kk := ?_)
  refine g_iconst (M := mX4_copy) (pc := 37) dX4_copy_37 (k := ?_)
  refine g_aload_n (M := mX4_copy) (pc := 38) dX4_copy_38 rfl (k := ?_)
  refine g_getr (M := mX4_copy) (pc := 39) (by rfl) fX4_1 kX4_21 dX4_copy_39 (by rfl) (kk := ?_)
  refine g_iconst (M := mX4_copy) (pc := 42) dX4_copy_42 (k := ?_)
  refine g_aload_n (M := mX4_copy) (pc := 43) dX4_copy_43 rfl (k := ?_)
  refine g_get (M := mX4_copy) (pc := 44) (ji := 2) (by rfl) fX4_2 kX4_24 dX4_copy_44 (kk := fun hr44 => ?_)
  have hb44 := iv13_2 hI30 2 (by omega) (by omega)
  refine g_copy (M := mX4_copy) (pc := 47) cpX4_31 (by rfl) (by rfl) (by decide) (by omega) (by omega) (by omega) (by omega) (by omega) dX4_copy_47 (by omega) (kk := ?_)
  have hI47 := iv_cpy (σ := τ30) (k0 := 47) (k1 := 15) (sp := 0) (dp := 0) (len := τ30 13 2) (by exact hI30) (by decide +kernel) rfl
  have hF47 : Fr scC13 σ (cpy τ30 47 15 0 0 (τ30 13 2)) := by refine Fr.cpy ?_ (by intro j; first | rfl | (unfold scC13; simp; try omega)); exact hF30
  generalize hcp47 : cpy τ30 47 15 0 0 (τ30 13 2) = τ47 at hI47 hF47 ⊢
  refine g_vret (M := mX4_copy) (pc := 50) rfl dX4_copy_50 rfl ⟨_, rfl, rfl, ?_⟩
  refine ⟨?_, ?_, ?_, ?_, ?_⟩
  · have hc : c10 = σ 45 2 := (by omega); rw [← hcp47, ← hcp30]; simp [cpy, up, hc]
  · have hc : c10 = σ 45 2 := (by omega); intro j h0 h1; rw [← hcp47, ← hcp30]; simp [cpy, up, hc, h0, h1]
  · have hc : c10 = σ 45 2 := (by omega); intro j h0 h1; rw [← hcp47, ← hcp30]; simp [cpy, up, hc, h0, h1]
  · exact hI47
  · exact hF47
set_option maxHeartbeats 4000000 in
set_option maxRecDepth 20000 in
theorem c_X4_copy_16 (Γ : KT) (t : Nat) (σ : Nat → Int → Int)  (hI : InvX σ) : Ct Γ mX4_copy 1 (0, 0) [vR Γ 16, vR Γ 48] (113, ρT t, σ) (pV 113 (ρT t) (fun σ' => (σ' 16 2 = σ 48 2) ∧ (∀ j, 0 ≤ j → j < σ 48 2 → σ' 17 j = σ 49 j) ∧ (∀ j, 0 ≤ j → j < σ 48 2 → σ' 18 j = σ 50 j) ∧ (InvX σ') ∧ (Fr scC16 σ σ'))) := by
  refine Ct.of rfl (Nat.le_of_ble_eq_true rfl) ?_
  show G Γ mX4_copy 1 (0, 0) _ (0, 0) 0 [some (vR Γ 16), some (vR Γ 48)] [] (113, ρT t, σ)
  refine g_aload_n (M := mX4_copy) (pc := 0) dX4_copy_0 rfl (k := ?_)
  refine g_aload_n (M := mX4_copy) (pc := 1) dX4_copy_1 rfl (k := ?_)
  refine g_get (M := mX4_copy) (pc := 2) (ji := 2) (by rfl) fX4_2 kX4_24 dX4_copy_2 (kk := fun hr2 => ?_)
  have hb2 := iv48_2 hI 2 (by omega) (by omega)
  refine g_aload_n (M := mX4_copy) (pc := 5) dX4_copy_5 rfl (k := ?_)
  refine g_getr (M := mX4_copy) (pc := 6) (by rfl) fX4_0 kX4_15 dX4_copy_6 (by rfl) (kk := ?_)
  refine g_alen (M := mX4_copy) (pc := 9) (by rfl) (by decide) dX4_copy_9 (kk := ?_)
  refine g_min2 (M := mX4_copy) (pc := 10) (by omega) (by omega) kmX4_28 nm_min dX4_copy_10 (by omega) rfl (k := fun c10 hz10 => ?_)
  refine g_put (M := mX4_copy) (pc := 13) (ji := 2) (by rfl) fX4_2 kX4_24 dX4_copy_13 (by omega) (kk := ?_)
  refine g_aload_n (M := mX4_copy) (pc := 16) dX4_copy_16 rfl (k := ?_)
  refine g_getr (M := mX4_copy) (pc := 17) (by rfl) fX4_0 kX4_15 dX4_copy_17 (by rfl) (kk := ?_)
  refine g_iconst (M := mX4_copy) (pc := 20) dX4_copy_20 (k := ?_)
  refine g_aload_n (M := mX4_copy) (pc := 21) dX4_copy_21 rfl (k := ?_)
  refine g_getr (M := mX4_copy) (pc := 22) (by rfl) fX4_0 kX4_15 dX4_copy_22 (by rfl) (kk := ?_)
  refine g_iconst (M := mX4_copy) (pc := 25) dX4_copy_25 (k := ?_)
  refine g_aload_n (M := mX4_copy) (pc := 26) dX4_copy_26 rfl (k := ?_)
  refine g_get (M := mX4_copy) (pc := 27) (ji := 2) (by rfl) fX4_2 kX4_24 dX4_copy_27 (kk := fun hr27 => ?_)
  simp only [up_same, up_cell, up_slot, ne_eq, not_false_eq_true, Nat.reduceEqDiff, Int.reduceEq, reduceCtorEq, Nat.reduceAdd, Int.reduceAdd, Int.reduceSub] at hr27 ⊢
  refine g_copy (M := mX4_copy) (pc := 30) cpX4_31 (by rfl) (by rfl) (by decide) (by omega) (by omega) (by omega) (by omega) (by omega) dX4_copy_30 (by omega) (kk := ?_)
  have hI30 := iv_cpy (σ := (up σ 16 2 c10)) (k0 := 49) (k1 := 17) (sp := 0) (dp := 0) (len := c10) (by refine ivu16 ?_ (by omega) (by omega); exact hI) (by decide +kernel) rfl
  have hF30 : Fr scC16 σ (cpy (up σ 16 2 c10) 49 17 0 0 c10) := by refine Fr.cpy ?_ (by intro j; first | rfl | (unfold scC16; simp; try omega)); refine Fr.up ?_ (by first | rfl | (unfold scC16; simp; try omega)); exact (Fr.rf)
  generalize hcp30 : cpy (up σ 16 2 c10) 49 17 0 0 c10 = τ30 at hI30 hF30 ⊢
  refine g_aload_n (M := mX4_copy) (pc := 33) dX4_copy_33 rfl (k := ?_)
  refine g_getr (M := mX4_copy) (pc := 34) (by rfl) fX4_1 kX4_21 dX4_copy_34 (by rfl) (kk := ?_)
  refine g_iconst (M := mX4_copy) (pc := 37) dX4_copy_37 (k := ?_)
  refine g_aload_n (M := mX4_copy) (pc := 38) dX4_copy_38 rfl (k := ?_)
  refine g_getr (M := mX4_copy) (pc := 39) (by rfl) fX4_1 kX4_21 dX4_copy_39 (by rfl) (kk := ?_)
  refine g_iconst (M := mX4_copy) (pc := 42) dX4_copy_42 (k := ?_)
  refine g_aload_n (M := mX4_copy) (pc := 43) dX4_copy_43 rfl (k := ?_)
  refine g_get (M := mX4_copy) (pc := 44) (ji := 2) (by rfl) fX4_2 kX4_24 dX4_copy_44 (kk := fun hr44 => ?_)
  have hb44 := iv16_2 hI30 2 (by omega) (by omega)
  refine g_copy (M := mX4_copy) (pc := 47) cpX4_31 (by rfl) (by rfl) (by decide) (by omega) (by omega) (by omega) (by omega) (by omega) dX4_copy_47 (by omega) (kk := ?_)
  have hI47 := iv_cpy (σ := τ30) (k0 := 50) (k1 := 18) (sp := 0) (dp := 0) (len := τ30 16 2) (by exact hI30) (by decide +kernel) rfl
  have hF47 : Fr scC16 σ (cpy τ30 50 18 0 0 (τ30 16 2)) := by refine Fr.cpy ?_ (by intro j; first | rfl | (unfold scC16; simp; try omega)); exact hF30
  generalize hcp47 : cpy τ30 50 18 0 0 (τ30 16 2) = τ47 at hI47 hF47 ⊢
  refine g_vret (M := mX4_copy) (pc := 50) rfl dX4_copy_50 rfl ⟨_, rfl, rfl, ?_⟩
  refine ⟨?_, ?_, ?_, ?_, ?_⟩
  · have hc : c10 = σ 48 2 := (by omega); rw [← hcp47, ← hcp30]; simp [cpy, up, hc]
  · have hc : c10 = σ 48 2 := (by omega); intro j h0 h1; rw [← hcp47, ← hcp30]; simp [cpy, up, hc, h0, h1]
  · have hc : c10 = σ 48 2 := (by omega); intro j h0 h1; rw [← hcp47, ← hcp30]; simp [cpy, up, hc, h0, h1]
  · exact hI47
  · exact hF47
set_option maxHeartbeats 4000000 in
set_option maxRecDepth 20000 in
theorem c_X5_copy_33 (Γ : KT) (t : Nat) (σ : Nat → Int → Int)  (hI : InvX σ) : Ct Γ mX5_copy 2 (0, 0) [vR Γ 33, vR Γ 1] (113, ρT t, σ) (pV 113 (ρT t) (fun σ' => (cpP 33 1 σ σ') ∧ (InvX σ') ∧ (Fr scCn σ σ'))) := by
  refine Ct.of rfl (Nat.le_of_ble_eq_true rfl) ?_
  show G Γ mX5_copy 2 (0, 0) _ (0, 0) 0 [some (vR Γ 33), some (vR Γ 1)] [] (113, ρT t, σ)
  refine g_aload_n (M := mX5_copy) (pc := 0) dX5_copy_0 rfl (k := ?_)
  refine g_aload_n (M := mX5_copy) (pc := 1) dX5_copy_1 rfl (k := ?_)
  refine g_get (M := mX5_copy) (pc := 2) (ji := 0) (by rfl) fX5_0 kX5_55 dX5_copy_2 (kk := fun hr2 => ?_)
  have hb2 := iv1_0 hI 0 (by omega) (by omega)
  refine g_put (M := mX5_copy) (pc := 5) (ji := 0) (by rfl) fX5_0 kX5_55 dX5_copy_5 (by omega) (kk := ?_)
  refine g_aload_n (M := mX5_copy) (pc := 8) dX5_copy_8 rfl (k := ?_)
  refine g_getr (M := mX5_copy) (pc := 9) (by rfl) fX5_1 kX5_9 dX5_copy_9 (by rfl) (kk := ?_)
  refine g_iconst (M := mX5_copy) (pc := 12) dX5_copy_12 (k := ?_)
  refine g_aload_n (M := mX5_copy) (pc := 13) dX5_copy_13 rfl (k := ?_)
  refine g_getr (M := mX5_copy) (pc := 14) (by rfl) fX5_1 kX5_9 dX5_copy_14 (by rfl) (kk := ?_)
  refine g_iconst (M := mX5_copy) (pc := 17) dX5_copy_17 (k := ?_)
  refine g_bipush (M := mX5_copy) (pc := 18) dX5_copy_18 (k := ?_)
  refine g_copy (M := mX5_copy) (pc := 20) cpX5_65 (by rfl) (by rfl) (by decide) (by omega) (by omega) (by omega) (by omega) (by omega) dX5_copy_20 (by omega) (kk := ?_)
  have hI20 := iv_cpy (σ := (up σ 33 0 (σ 1 0))) (k0 := 2) (k1 := 34) (sp := 0) (dp := 0) (len := 6) (by refine ivu33_0 ?_ (by omega) (by omega); exact hI) (by decide +kernel) rfl
  have hF20 : Fr scCn σ (cpy (up σ 33 0 (σ 1 0)) 2 34 0 0 6) := by refine Fr.cpy ?_ (by intro j; first | rfl | (unfold scCn; simp; try omega)); refine Fr.up ?_ (by first | rfl | (unfold scCn; simp; try omega)); exact (Fr.rf)
  generalize hcp20 : cpy (up σ 33 0 (σ 1 0)) 2 34 0 0 6 = τ20 at hI20 hF20 ⊢
  refine g_aload_n (M := mX5_copy) (pc := 23) dX5_copy_23 rfl (k := ?_)
  refine g_getr (M := mX5_copy) (pc := 24) (by rfl) fX5_2 kX5_15 dX5_copy_24 (by rfl) (kk := ?_)
  refine g_iconst (M := mX5_copy) (pc := 27) dX5_copy_27 (k := ?_)
  refine g_aload_n (M := mX5_copy) (pc := 28) dX5_copy_28 rfl (k := ?_)
  refine g_getr (M := mX5_copy) (pc := 29) (by rfl) fX5_2 kX5_15 dX5_copy_29 (by rfl) (kk := ?_)
  refine g_iconst (M := mX5_copy) (pc := 32) dX5_copy_32 (k := ?_)
  refine g_bipush (M := mX5_copy) (pc := 33) dX5_copy_33 (k := ?_)
  refine g_copy (M := mX5_copy) (pc := 35) cpX5_65 (by rfl) (by rfl) (by decide) (by omega) (by omega) (by omega) (by omega) (by omega) dX5_copy_35 (by omega) (kk := ?_)
  have hI35 := iv_cpy (σ := τ20) (k0 := 3) (k1 := 35) (sp := 0) (dp := 0) (len := 6) (by exact hI20) (by decide +kernel) rfl
  have hF35 : Fr scCn σ (cpy τ20 3 35 0 0 6) := by refine Fr.cpy ?_ (by intro j; first | rfl | (unfold scCn; simp; try omega)); exact hF20
  generalize hcp35 : cpy τ20 3 35 0 0 6 = τ35 at hI35 hF35 ⊢
  refine g_aload_n (M := mX5_copy) (pc := 38) dX5_copy_38 rfl (k := ?_)
  refine g_getr (M := mX5_copy) (pc := 39) (by rfl) fX5_3 kX5_18 dX5_copy_39 (by rfl) (kk := ?_)
  refine g_iconst (M := mX5_copy) (pc := 42) dX5_copy_42 (k := ?_)
  refine g_aload_n (M := mX5_copy) (pc := 43) dX5_copy_43 rfl (k := ?_)
  refine g_getr (M := mX5_copy) (pc := 44) (by rfl) fX5_3 kX5_18 dX5_copy_44 (by rfl) (kk := ?_)
  refine g_iconst (M := mX5_copy) (pc := 47) dX5_copy_47 (k := ?_)
  refine g_bipush (M := mX5_copy) (pc := 48) dX5_copy_48 (k := ?_)
  refine g_copy (M := mX5_copy) (pc := 50) cpX5_65 (by rfl) (by rfl) (by decide) (by omega) (by omega) (by omega) (by omega) (by omega) dX5_copy_50 (by omega) (kk := ?_)
  have hI50 := iv_cpy (σ := τ35) (k0 := 4) (k1 := 36) (sp := 0) (dp := 0) (len := 6) (by exact hI35) (by decide +kernel) rfl
  have hF50 : Fr scCn σ (cpy τ35 4 36 0 0 6) := by refine Fr.cpy ?_ (by intro j; first | rfl | (unfold scCn; simp; try omega)); exact hF35
  generalize hcp50 : cpy τ35 4 36 0 0 6 = τ50 at hI50 hF50 ⊢
  refine g_aload_n (M := mX5_copy) (pc := 53) dX5_copy_53 rfl (k := ?_)
  refine g_getr (M := mX5_copy) (pc := 54) (by rfl) fX5_4 kX5_21 dX5_copy_54 (by rfl) (kk := ?_)
  refine g_iconst (M := mX5_copy) (pc := 57) dX5_copy_57 (k := ?_)
  refine g_aload_n (M := mX5_copy) (pc := 58) dX5_copy_58 rfl (k := ?_)
  refine g_getr (M := mX5_copy) (pc := 59) (by rfl) fX5_4 kX5_21 dX5_copy_59 (by rfl) (kk := ?_)
  refine g_iconst (M := mX5_copy) (pc := 62) dX5_copy_62 (k := ?_)
  refine g_bipush (M := mX5_copy) (pc := 63) dX5_copy_63 (k := ?_)
  refine g_copy (M := mX5_copy) (pc := 65) cpX5_65 (by rfl) (by rfl) (by decide) (by omega) (by omega) (by omega) (by omega) (by omega) dX5_copy_65 (by omega) (kk := ?_)
  have hI65 := iv_cpy (σ := τ50) (k0 := 5) (k1 := 37) (sp := 0) (dp := 0) (len := 6) (by exact hI50) (by decide +kernel) rfl
  have hF65 : Fr scCn σ (cpy τ50 5 37 0 0 6) := by refine Fr.cpy ?_ (by intro j; first | rfl | (unfold scCn; simp; try omega)); exact hF50
  generalize hcp65 : cpy τ50 5 37 0 0 6 = τ65 at hI65 hF65 ⊢
  refine g_aload_n (M := mX5_copy) (pc := 68) dX5_copy_68 rfl (k := ?_)
  refine g_getr (M := mX5_copy) (pc := 69) (by rfl) fX5_5 kX5_24 dX5_copy_69 (by rfl) (kk := ?_)
  refine g_iconst (M := mX5_copy) (pc := 72) dX5_copy_72 (k := ?_)
  refine g_aload_n (M := mX5_copy) (pc := 73) dX5_copy_73 rfl (k := ?_)
  refine g_getr (M := mX5_copy) (pc := 74) (by rfl) fX5_5 kX5_24 dX5_copy_74 (by rfl) (kk := ?_)
  refine g_iconst (M := mX5_copy) (pc := 77) dX5_copy_77 (k := ?_)
  refine g_bipush (M := mX5_copy) (pc := 78) dX5_copy_78 (k := ?_)
  refine g_copy (M := mX5_copy) (pc := 80) cpX5_65 (by rfl) (by rfl) (by decide) (by omega) (by omega) (by omega) (by omega) (by omega) dX5_copy_80 (by omega) (kk := ?_)
  have hI80 := iv_cpy (σ := τ65) (k0 := 6) (k1 := 38) (sp := 0) (dp := 0) (len := 6) (by exact hI65) (by decide +kernel) rfl
  have hF80 : Fr scCn σ (cpy τ65 6 38 0 0 6) := by refine Fr.cpy ?_ (by intro j; first | rfl | (unfold scCn; simp; try omega)); exact hF65
  generalize hcp80 : cpy τ65 6 38 0 0 6 = τ80 at hI80 hF80 ⊢
  refine g_aload_n (M := mX5_copy) (pc := 83) dX5_copy_83 rfl (k := ?_)
  refine g_aload_n (M := mX5_copy) (pc := 84) dX5_copy_84 rfl (k := ?_)
  refine g_get (M := mX5_copy) (pc := 85) (ji := 6) (by rfl) fX5_6 kX5_58 dX5_copy_85 (kk := fun hr85 => ?_)
  have hb85 := iv1_6 hI80 6 (by omega) (by omega)
  refine g_put (M := mX5_copy) (pc := 88) (ji := 6) (by rfl) fX5_6 kX5_58 dX5_copy_88 (by omega) (kk := ?_)
  refine g_aload_n (M := mX5_copy) (pc := 91) dX5_copy_91 rfl (k := ?_)
  refine g_getr (M := mX5_copy) (pc := 92) (by rfl) fX5_7 kX5_27 dX5_copy_92 (by rfl) (kk := ?_)
  refine g_iconst (M := mX5_copy) (pc := 95) dX5_copy_95 (k := ?_)
  refine g_aload_n (M := mX5_copy) (pc := 96) dX5_copy_96 rfl (k := ?_)
  refine g_getr (M := mX5_copy) (pc := 97) (by rfl) fX5_7 kX5_27 dX5_copy_97 (by rfl) (kk := ?_)
  refine g_iconst (M := mX5_copy) (pc := 100) dX5_copy_100 (k := ?_)
  refine g_iconst (M := mX5_copy) (pc := 101) dX5_copy_101 (k := ?_)
  refine g_copy (M := mX5_copy) (pc := 102) cpX5_65 (by rfl) (by rfl) (by decide) (by omega) (by omega) (by omega) (by omega) (by omega) dX5_copy_102 (by omega) (kk := ?_)
  have hI102 := iv_cpy (σ := (up τ80 33 6 (τ80 1 6))) (k0 := 7) (k1 := 39) (sp := 0) (dp := 0) (len := 4) (by refine ivu33_6 ?_ (by omega) (by omega); exact hI80) (by decide +kernel) rfl
  have hF102 : Fr scCn σ (cpy (up τ80 33 6 (τ80 1 6)) 7 39 0 0 4) := by refine Fr.cpy ?_ (by intro j; first | rfl | (unfold scCn; simp; try omega)); refine Fr.up ?_ (by first | rfl | (unfold scCn; simp; try omega)); exact hF80
  generalize hcp102 : cpy (up τ80 33 6 (τ80 1 6)) 7 39 0 0 4 = τ102 at hI102 hF102 ⊢
  refine g_aload_n (M := mX5_copy) (pc := 105) dX5_copy_105 rfl (k := ?_)
  refine g_getr (M := mX5_copy) (pc := 106) (by rfl) fX5_8 kX5_30 dX5_copy_106 (by rfl) (kk := ?_)
  refine g_iconst (M := mX5_copy) (pc := 109) dX5_copy_109 (k := ?_)
  refine g_aload_n (M := mX5_copy) (pc := 110) dX5_copy_110 rfl (k := ?_)
  refine g_getr (M := mX5_copy) (pc := 111) (by rfl) fX5_8 kX5_30 dX5_copy_111 (by rfl) (kk := ?_)
  refine g_iconst (M := mX5_copy) (pc := 114) dX5_copy_114 (k := ?_)
  refine g_iconst (M := mX5_copy) (pc := 115) dX5_copy_115 (k := ?_)
  refine g_copy (M := mX5_copy) (pc := 116) cpX5_65 (by rfl) (by rfl) (by decide) (by omega) (by omega) (by omega) (by omega) (by omega) dX5_copy_116 (by omega) (kk := ?_)
  have hI116 := iv_cpy (σ := τ102) (k0 := 8) (k1 := 40) (sp := 0) (dp := 0) (len := 4) (by exact hI102) (by decide +kernel) rfl
  have hF116 : Fr scCn σ (cpy τ102 8 40 0 0 4) := by refine Fr.cpy ?_ (by intro j; first | rfl | (unfold scCn; simp; try omega)); exact hF102
  generalize hcp116 : cpy τ102 8 40 0 0 4 = τ116 at hI116 hF116 ⊢
  refine g_aload_n (M := mX5_copy) (pc := 119) dX5_copy_119 rfl (k := ?_)
  refine g_getr (M := mX5_copy) (pc := 120) (by rfl) fX5_9 kX5_33 dX5_copy_120 (by rfl) (kk := ?_)
  refine g_iconst (M := mX5_copy) (pc := 123) dX5_copy_123 (k := ?_)
  refine g_aload_n (M := mX5_copy) (pc := 124) dX5_copy_124 rfl (k := ?_)
  refine g_getr (M := mX5_copy) (pc := 125) (by rfl) fX5_9 kX5_33 dX5_copy_125 (by rfl) (kk := ?_)
  refine g_iconst (M := mX5_copy) (pc := 128) dX5_copy_128 (k := ?_)
  refine g_iconst (M := mX5_copy) (pc := 129) dX5_copy_129 (k := ?_)
  refine g_copy (M := mX5_copy) (pc := 130) cpX5_65 (by rfl) (by rfl) (by decide) (by omega) (by omega) (by omega) (by omega) (by omega) dX5_copy_130 (by omega) (kk := ?_)
  have hI130 := iv_cpy (σ := τ116) (k0 := 9) (k1 := 41) (sp := 0) (dp := 0) (len := 4) (by exact hI116) (by decide +kernel) rfl
  have hF130 : Fr scCn σ (cpy τ116 9 41 0 0 4) := by refine Fr.cpy ?_ (by intro j; first | rfl | (unfold scCn; simp; try omega)); exact hF116
  generalize hcp130 : cpy τ116 9 41 0 0 4 = τ130 at hI130 hF130 ⊢
  refine g_aload_n (M := mX5_copy) (pc := 133) dX5_copy_133 rfl (k := ?_)
  refine g_getr (M := mX5_copy) (pc := 134) (by rfl) fX5_10 kX5_41 dX5_copy_134 (by rfl) (kk := ?_)
  refine g_aload_n (M := mX5_copy) (pc := 137) dX5_copy_137 rfl (k := ?_)
  refine g_getr (M := mX5_copy) (pc := 138) (by rfl) fX5_10 kX5_41 dX5_copy_138 (by rfl) (kk := ?_)
  refine g_cV1V (M := mX5_copy) (pc := 141) (c_X4_copy_42 Γ t _ hI130) qX4_copy vX4_copy sX4_copy kX5_71 dX5_copy_141 (kk := ?_)
  rintro τ141 ⟨hz141, ha141, hb141, hI141, hG141⟩
  have hF141 : Fr scCn σ τ141 := by refine Fr.tr ?_ (Fr.mono hG141 sb_scC42_scCn); exact hF130
  refine g_aload_n (M := mX5_copy) (pc := 144) dX5_copy_144 rfl (k := ?_)
  refine g_getr (M := mX5_copy) (pc := 145) (by rfl) fX5_11 kX5_45 dX5_copy_145 (by rfl) (kk := ?_)
  refine g_aload_n (M := mX5_copy) (pc := 148) dX5_copy_148 rfl (k := ?_)
  refine g_getr (M := mX5_copy) (pc := 149) (by rfl) fX5_11 kX5_45 dX5_copy_149 (by rfl) (kk := ?_)
  refine g_cV1V (M := mX5_copy) (pc := 152) (c_X4_copy_45 Γ t _ hI141) qX4_copy vX4_copy sX4_copy kX5_71 dX5_copy_152 (kk := ?_)
  rintro τ152 ⟨hz152, ha152, hb152, hI152, hG152⟩
  have hF152 : Fr scCn σ τ152 := by refine Fr.tr ?_ (Fr.mono hG152 sb_scC45_scCn); exact hF141
  refine g_aload_n (M := mX5_copy) (pc := 155) dX5_copy_155 rfl (k := ?_)
  refine g_getr (M := mX5_copy) (pc := 156) (by rfl) fX5_12 kX5_48 dX5_copy_156 (by rfl) (kk := ?_)
  refine g_aload_n (M := mX5_copy) (pc := 159) dX5_copy_159 rfl (k := ?_)
  refine g_getr (M := mX5_copy) (pc := 160) (by rfl) fX5_12 kX5_48 dX5_copy_160 (by rfl) (kk := ?_)
  refine g_cV1V (M := mX5_copy) (pc := 163) (c_X4_copy_48 Γ t _ hI152) qX4_copy vX4_copy sX4_copy kX5_71 dX5_copy_163 (kk := ?_)
  rintro τ163 ⟨hz163, ha163, hb163, hI163, hG163⟩
  have hF163 : Fr scCn σ τ163 := by refine Fr.tr ?_ (Fr.mono hG163 sb_scC48_scCn); exact hF152
  refine g_aload_n (M := mX5_copy) (pc := 166) dX5_copy_166 rfl (k := ?_)
  refine g_aload_n (M := mX5_copy) (pc := 167) dX5_copy_167 rfl (k := ?_)
  refine g_get (M := mX5_copy) (pc := 168) (ji := 13) (by rfl) fX5_13 kX5_51 dX5_copy_168 (kk := fun hr168 => ?_)
  refine g_put (M := mX5_copy) (pc := 171) (ji := 13) (by rfl) fX5_13 kX5_51 dX5_copy_171 (by omega) (kk := ?_)
  refine g_vret (M := mX5_copy) (pc := 174) rfl dX5_copy_174 rfl ⟨_, rfl, rfl, ?_⟩
  refine ⟨?_, ?_, ?_⟩
  · exact ⟨by (simp only [up_same, up_cell, up_slot, ne_eq, not_false_eq_true, Nat.reduceEqDiff, Int.reduceEq, reduceCtorEq, Nat.reduceAdd, Int.reduceAdd, Int.reduceSub]; rw [hG163 33 0 rfl, hG152 33 0 rfl, hG141 33 0 rfl, ← hcp130, ← hcp116, ← hcp102, ← hcp80, ← hcp65, ← hcp50, ← hcp35, ← hcp20]; simp [cpy, up]), by (simp only [up_same, up_cell, up_slot, ne_eq, not_false_eq_true, Nat.reduceEqDiff, Int.reduceEq, reduceCtorEq, Nat.reduceAdd, Int.reduceAdd, Int.reduceSub]; rw [hG163 33 6 rfl, hG152 33 6 rfl, hG141 33 6 rfl, ← hcp130, ← hcp116, ← hcp102, ← hcp80, ← hcp65, ← hcp50, ← hcp35, ← hcp20]; simp [cpy, up]), by (simp only [up_same, up_cell, up_slot, ne_eq, not_false_eq_true, Nat.reduceEqDiff, Int.reduceEq, reduceCtorEq, Nat.reduceAdd, Int.reduceAdd, Int.reduceSub]; exact hF163 1 13 rfl), by (intro j h0 h1; simp only [up_same, up_cell, up_slot, ne_eq, not_false_eq_true, Nat.reduceEqDiff, Int.reduceEq, reduceCtorEq, Nat.reduceAdd, Int.reduceAdd, Int.reduceSub]; rw [hG163 34 j rfl, hG152 34 j rfl, hG141 34 j rfl, ← hcp130, ← hcp116, ← hcp102, ← hcp80, ← hcp65, ← hcp50, ← hcp35, ← hcp20]; simp [cpy, up, h0, h1]), by (intro j h0 h1; simp only [up_same, up_cell, up_slot, ne_eq, not_false_eq_true, Nat.reduceEqDiff, Int.reduceEq, reduceCtorEq, Nat.reduceAdd, Int.reduceAdd, Int.reduceSub]; rw [hG163 35 j rfl, hG152 35 j rfl, hG141 35 j rfl, ← hcp130, ← hcp116, ← hcp102, ← hcp80, ← hcp65, ← hcp50, ← hcp35, ← hcp20]; simp [cpy, up, h0, h1]), by (intro j h0 h1; simp only [up_same, up_cell, up_slot, ne_eq, not_false_eq_true, Nat.reduceEqDiff, Int.reduceEq, reduceCtorEq, Nat.reduceAdd, Int.reduceAdd, Int.reduceSub]; rw [hG163 36 j rfl, hG152 36 j rfl, hG141 36 j rfl, ← hcp130, ← hcp116, ← hcp102, ← hcp80, ← hcp65, ← hcp50, ← hcp35, ← hcp20]; simp [cpy, up, h0, h1]), by (intro j h0 h1; simp only [up_same, up_cell, up_slot, ne_eq, not_false_eq_true, Nat.reduceEqDiff, Int.reduceEq, reduceCtorEq, Nat.reduceAdd, Int.reduceAdd, Int.reduceSub]; rw [hG163 37 j rfl, hG152 37 j rfl, hG141 37 j rfl, ← hcp130, ← hcp116, ← hcp102, ← hcp80, ← hcp65, ← hcp50, ← hcp35, ← hcp20]; simp [cpy, up, h0, h1]), by (intro j h0 h1; simp only [up_same, up_cell, up_slot, ne_eq, not_false_eq_true, Nat.reduceEqDiff, Int.reduceEq, reduceCtorEq, Nat.reduceAdd, Int.reduceAdd, Int.reduceSub]; rw [hG163 38 j rfl, hG152 38 j rfl, hG141 38 j rfl, ← hcp130, ← hcp116, ← hcp102, ← hcp80, ← hcp65, ← hcp50, ← hcp35, ← hcp20]; simp [cpy, up, h0, h1]), by (intro j h0 h1; simp only [up_same, up_cell, up_slot, ne_eq, not_false_eq_true, Nat.reduceEqDiff, Int.reduceEq, reduceCtorEq, Nat.reduceAdd, Int.reduceAdd, Int.reduceSub]; rw [hG163 39 j rfl, hG152 39 j rfl, hG141 39 j rfl, ← hcp130, ← hcp116, ← hcp102, ← hcp80, ← hcp65, ← hcp50, ← hcp35, ← hcp20]; simp [cpy, up, h0, h1]), by (intro j h0 h1; simp only [up_same, up_cell, up_slot, ne_eq, not_false_eq_true, Nat.reduceEqDiff, Int.reduceEq, reduceCtorEq, Nat.reduceAdd, Int.reduceAdd, Int.reduceSub]; rw [hG163 40 j rfl, hG152 40 j rfl, hG141 40 j rfl, ← hcp130, ← hcp116, ← hcp102, ← hcp80, ← hcp65, ← hcp50, ← hcp35, ← hcp20]; simp [cpy, up, h0, h1]), by (intro j h0 h1; simp only [up_same, up_cell, up_slot, ne_eq, not_false_eq_true, Nat.reduceEqDiff, Int.reduceEq, reduceCtorEq, Nat.reduceAdd, Int.reduceAdd, Int.reduceSub]; rw [hG163 41 j rfl, hG152 41 j rfl, hG141 41 j rfl, ← hcp130, ← hcp116, ← hcp102, ← hcp80, ← hcp65, ← hcp50, ← hcp35, ← hcp20]; simp [cpy, up, h0, h1]), by (simp only [up_same, up_cell, up_slot, ne_eq, not_false_eq_true, Nat.reduceEqDiff, Int.reduceEq, reduceCtorEq, Nat.reduceAdd, Int.reduceAdd, Int.reduceSub]; rw [hG163 42 2 rfl, hG152 42 2 rfl, hz141]; exact hF130 10 2 rfl), by (intro j h0 h1; simp only [up_same, up_cell, up_slot, ne_eq, not_false_eq_true, Nat.reduceEqDiff, Int.reduceEq, reduceCtorEq, Nat.reduceAdd, Int.reduceAdd, Int.reduceSub]; rw [hG163 43 j rfl, hG152 43 j rfl, ha141 j h0 (by rw [hF130 10 2 rfl]; exact h1)]; exact hF130 11 j rfl), by (intro j h0 h1; simp only [up_same, up_cell, up_slot, ne_eq, not_false_eq_true, Nat.reduceEqDiff, Int.reduceEq, reduceCtorEq, Nat.reduceAdd, Int.reduceAdd, Int.reduceSub]; rw [hG163 44 j rfl, hG152 44 j rfl, hb141 j h0 (by rw [hF130 10 2 rfl]; exact h1)]; exact hF130 12 j rfl), by (simp only [up_same, up_cell, up_slot, ne_eq, not_false_eq_true, Nat.reduceEqDiff, Int.reduceEq, reduceCtorEq, Nat.reduceAdd, Int.reduceAdd, Int.reduceSub]; rw [hG163 45 2 rfl, hz152]; exact hF141 13 2 rfl), by (intro j h0 h1; simp only [up_same, up_cell, up_slot, ne_eq, not_false_eq_true, Nat.reduceEqDiff, Int.reduceEq, reduceCtorEq, Nat.reduceAdd, Int.reduceAdd, Int.reduceSub]; rw [hG163 46 j rfl, ha152 j h0 (by rw [hF141 13 2 rfl]; exact h1)]; exact hF141 14 j rfl), by (intro j h0 h1; simp only [up_same, up_cell, up_slot, ne_eq, not_false_eq_true, Nat.reduceEqDiff, Int.reduceEq, reduceCtorEq, Nat.reduceAdd, Int.reduceAdd, Int.reduceSub]; rw [hG163 47 j rfl, hb152 j h0 (by rw [hF141 13 2 rfl]; exact h1)]; exact hF141 15 j rfl), by (simp only [up_same, up_cell, up_slot, ne_eq, not_false_eq_true, Nat.reduceEqDiff, Int.reduceEq, reduceCtorEq, Nat.reduceAdd, Int.reduceAdd, Int.reduceSub]; rw [hz163]; exact hF152 16 2 rfl), by (intro j h0 h1; simp only [up_same, up_cell, up_slot, ne_eq, not_false_eq_true, Nat.reduceEqDiff, Int.reduceEq, reduceCtorEq, Nat.reduceAdd, Int.reduceAdd, Int.reduceSub]; rw [ha163 j h0 (by rw [hF152 16 2 rfl]; exact h1)]; exact hF152 17 j rfl), by (intro j h0 h1; simp only [up_same, up_cell, up_slot, ne_eq, not_false_eq_true, Nat.reduceEqDiff, Int.reduceEq, reduceCtorEq, Nat.reduceAdd, Int.reduceAdd, Int.reduceSub]; rw [hb163 j h0 (by rw [hF152 16 2 rfl]; exact h1)]; exact hF152 18 j rfl)⟩
  · refine iv_free ?_ (by rfl); exact hI163
  · refine Fr.up ?_ (by first | rfl | (unfold scCn; simp; try omega)); exact hF163
set_option maxHeartbeats 4000000 in
set_option maxRecDepth 20000 in
theorem c_X5_copy_1 (Γ : KT) (t : Nat) (σ : Nat → Int → Int)  (hI : InvX σ) : Ct Γ mX5_copy 2 (0, 0) [vR Γ 1, vR Γ 33] (113, ρT t, σ) (pV 113 (ρT t) (fun σ' => (cpP 1 33 σ σ') ∧ (InvX σ') ∧ (Fr scCk σ σ'))) := by
  refine Ct.of rfl (Nat.le_of_ble_eq_true rfl) ?_
  show G Γ mX5_copy 2 (0, 0) _ (0, 0) 0 [some (vR Γ 1), some (vR Γ 33)] [] (113, ρT t, σ)
  refine g_aload_n (M := mX5_copy) (pc := 0) dX5_copy_0 rfl (k := ?_)
  refine g_aload_n (M := mX5_copy) (pc := 1) dX5_copy_1 rfl (k := ?_)
  refine g_get (M := mX5_copy) (pc := 2) (ji := 0) (by rfl) fX5_0 kX5_55 dX5_copy_2 (kk := fun hr2 => ?_)
  have hb2 := iv33_0 hI 0 (by omega) (by omega)
  refine g_put (M := mX5_copy) (pc := 5) (ji := 0) (by rfl) fX5_0 kX5_55 dX5_copy_5 (by omega) (kk := ?_)
  refine g_aload_n (M := mX5_copy) (pc := 8) dX5_copy_8 rfl (k := ?_)
  refine g_getr (M := mX5_copy) (pc := 9) (by rfl) fX5_1 kX5_9 dX5_copy_9 (by rfl) (kk := ?_)
  refine g_iconst (M := mX5_copy) (pc := 12) dX5_copy_12 (k := ?_)
  refine g_aload_n (M := mX5_copy) (pc := 13) dX5_copy_13 rfl (k := ?_)
  refine g_getr (M := mX5_copy) (pc := 14) (by rfl) fX5_1 kX5_9 dX5_copy_14 (by rfl) (kk := ?_)
  refine g_iconst (M := mX5_copy) (pc := 17) dX5_copy_17 (k := ?_)
  refine g_bipush (M := mX5_copy) (pc := 18) dX5_copy_18 (k := ?_)
  refine g_copy (M := mX5_copy) (pc := 20) cpX5_65 (by rfl) (by rfl) (by decide) (by omega) (by omega) (by omega) (by omega) (by omega) dX5_copy_20 (by omega) (kk := ?_)
  have hI20 := iv_cpy (σ := (up σ 1 0 (σ 33 0))) (k0 := 34) (k1 := 2) (sp := 0) (dp := 0) (len := 6) (by refine ivu1_0 ?_ (by omega) (by omega); exact hI) (by decide +kernel) rfl
  have hF20 : Fr scCk σ (cpy (up σ 1 0 (σ 33 0)) 34 2 0 0 6) := by refine Fr.cpy ?_ (by intro j; first | rfl | (unfold scCk; simp; try omega)); refine Fr.up ?_ (by first | rfl | (unfold scCk; simp; try omega)); exact (Fr.rf)
  generalize hcp20 : cpy (up σ 1 0 (σ 33 0)) 34 2 0 0 6 = τ20 at hI20 hF20 ⊢
  refine g_aload_n (M := mX5_copy) (pc := 23) dX5_copy_23 rfl (k := ?_)
  refine g_getr (M := mX5_copy) (pc := 24) (by rfl) fX5_2 kX5_15 dX5_copy_24 (by rfl) (kk := ?_)
  refine g_iconst (M := mX5_copy) (pc := 27) dX5_copy_27 (k := ?_)
  refine g_aload_n (M := mX5_copy) (pc := 28) dX5_copy_28 rfl (k := ?_)
  refine g_getr (M := mX5_copy) (pc := 29) (by rfl) fX5_2 kX5_15 dX5_copy_29 (by rfl) (kk := ?_)
  refine g_iconst (M := mX5_copy) (pc := 32) dX5_copy_32 (k := ?_)
  refine g_bipush (M := mX5_copy) (pc := 33) dX5_copy_33 (k := ?_)
  refine g_copy (M := mX5_copy) (pc := 35) cpX5_65 (by rfl) (by rfl) (by decide) (by omega) (by omega) (by omega) (by omega) (by omega) dX5_copy_35 (by omega) (kk := ?_)
  have hI35 := iv_cpy (σ := τ20) (k0 := 35) (k1 := 3) (sp := 0) (dp := 0) (len := 6) (by exact hI20) (by decide +kernel) rfl
  have hF35 : Fr scCk σ (cpy τ20 35 3 0 0 6) := by refine Fr.cpy ?_ (by intro j; first | rfl | (unfold scCk; simp; try omega)); exact hF20
  generalize hcp35 : cpy τ20 35 3 0 0 6 = τ35 at hI35 hF35 ⊢
  refine g_aload_n (M := mX5_copy) (pc := 38) dX5_copy_38 rfl (k := ?_)
  refine g_getr (M := mX5_copy) (pc := 39) (by rfl) fX5_3 kX5_18 dX5_copy_39 (by rfl) (kk := ?_)
  refine g_iconst (M := mX5_copy) (pc := 42) dX5_copy_42 (k := ?_)
  refine g_aload_n (M := mX5_copy) (pc := 43) dX5_copy_43 rfl (k := ?_)
  refine g_getr (M := mX5_copy) (pc := 44) (by rfl) fX5_3 kX5_18 dX5_copy_44 (by rfl) (kk := ?_)
  refine g_iconst (M := mX5_copy) (pc := 47) dX5_copy_47 (k := ?_)
  refine g_bipush (M := mX5_copy) (pc := 48) dX5_copy_48 (k := ?_)
  refine g_copy (M := mX5_copy) (pc := 50) cpX5_65 (by rfl) (by rfl) (by decide) (by omega) (by omega) (by omega) (by omega) (by omega) dX5_copy_50 (by omega) (kk := ?_)
  have hI50 := iv_cpy (σ := τ35) (k0 := 36) (k1 := 4) (sp := 0) (dp := 0) (len := 6) (by exact hI35) (by decide +kernel) rfl
  have hF50 : Fr scCk σ (cpy τ35 36 4 0 0 6) := by refine Fr.cpy ?_ (by intro j; first | rfl | (unfold scCk; simp; try omega)); exact hF35
  generalize hcp50 : cpy τ35 36 4 0 0 6 = τ50 at hI50 hF50 ⊢
  refine g_aload_n (M := mX5_copy) (pc := 53) dX5_copy_53 rfl (k := ?_)
  refine g_getr (M := mX5_copy) (pc := 54) (by rfl) fX5_4 kX5_21 dX5_copy_54 (by rfl) (kk := ?_)
  refine g_iconst (M := mX5_copy) (pc := 57) dX5_copy_57 (k := ?_)
  refine g_aload_n (M := mX5_copy) (pc := 58) dX5_copy_58 rfl (k := ?_)
  refine g_getr (M := mX5_copy) (pc := 59) (by rfl) fX5_4 kX5_21 dX5_copy_59 (by rfl) (kk := ?_)
  refine g_iconst (M := mX5_copy) (pc := 62) dX5_copy_62 (k := ?_)
  refine g_bipush (M := mX5_copy) (pc := 63) dX5_copy_63 (k := ?_)
  refine g_copy (M := mX5_copy) (pc := 65) cpX5_65 (by rfl) (by rfl) (by decide) (by omega) (by omega) (by omega) (by omega) (by omega) dX5_copy_65 (by omega) (kk := ?_)
  have hI65 := iv_cpy (σ := τ50) (k0 := 37) (k1 := 5) (sp := 0) (dp := 0) (len := 6) (by exact hI50) (by decide +kernel) rfl
  have hF65 : Fr scCk σ (cpy τ50 37 5 0 0 6) := by refine Fr.cpy ?_ (by intro j; first | rfl | (unfold scCk; simp; try omega)); exact hF50
  generalize hcp65 : cpy τ50 37 5 0 0 6 = τ65 at hI65 hF65 ⊢
  refine g_aload_n (M := mX5_copy) (pc := 68) dX5_copy_68 rfl (k := ?_)
  refine g_getr (M := mX5_copy) (pc := 69) (by rfl) fX5_5 kX5_24 dX5_copy_69 (by rfl) (kk := ?_)
  refine g_iconst (M := mX5_copy) (pc := 72) dX5_copy_72 (k := ?_)
  refine g_aload_n (M := mX5_copy) (pc := 73) dX5_copy_73 rfl (k := ?_)
  refine g_getr (M := mX5_copy) (pc := 74) (by rfl) fX5_5 kX5_24 dX5_copy_74 (by rfl) (kk := ?_)
  refine g_iconst (M := mX5_copy) (pc := 77) dX5_copy_77 (k := ?_)
  refine g_bipush (M := mX5_copy) (pc := 78) dX5_copy_78 (k := ?_)
  refine g_copy (M := mX5_copy) (pc := 80) cpX5_65 (by rfl) (by rfl) (by decide) (by omega) (by omega) (by omega) (by omega) (by omega) dX5_copy_80 (by omega) (kk := ?_)
  have hI80 := iv_cpy (σ := τ65) (k0 := 38) (k1 := 6) (sp := 0) (dp := 0) (len := 6) (by exact hI65) (by decide +kernel) rfl
  have hF80 : Fr scCk σ (cpy τ65 38 6 0 0 6) := by refine Fr.cpy ?_ (by intro j; first | rfl | (unfold scCk; simp; try omega)); exact hF65
  generalize hcp80 : cpy τ65 38 6 0 0 6 = τ80 at hI80 hF80 ⊢
  refine g_aload_n (M := mX5_copy) (pc := 83) dX5_copy_83 rfl (k := ?_)
  refine g_aload_n (M := mX5_copy) (pc := 84) dX5_copy_84 rfl (k := ?_)
  refine g_get (M := mX5_copy) (pc := 85) (ji := 6) (by rfl) fX5_6 kX5_58 dX5_copy_85 (kk := fun hr85 => ?_)
  have hb85 := iv33_6 hI80 6 (by omega) (by omega)
  refine g_put (M := mX5_copy) (pc := 88) (ji := 6) (by rfl) fX5_6 kX5_58 dX5_copy_88 (by omega) (kk := ?_)
  refine g_aload_n (M := mX5_copy) (pc := 91) dX5_copy_91 rfl (k := ?_)
  refine g_getr (M := mX5_copy) (pc := 92) (by rfl) fX5_7 kX5_27 dX5_copy_92 (by rfl) (kk := ?_)
  refine g_iconst (M := mX5_copy) (pc := 95) dX5_copy_95 (k := ?_)
  refine g_aload_n (M := mX5_copy) (pc := 96) dX5_copy_96 rfl (k := ?_)
  refine g_getr (M := mX5_copy) (pc := 97) (by rfl) fX5_7 kX5_27 dX5_copy_97 (by rfl) (kk := ?_)
  refine g_iconst (M := mX5_copy) (pc := 100) dX5_copy_100 (k := ?_)
  refine g_iconst (M := mX5_copy) (pc := 101) dX5_copy_101 (k := ?_)
  refine g_copy (M := mX5_copy) (pc := 102) cpX5_65 (by rfl) (by rfl) (by decide) (by omega) (by omega) (by omega) (by omega) (by omega) dX5_copy_102 (by omega) (kk := ?_)
  have hI102 := iv_cpy (σ := (up τ80 1 6 (τ80 33 6))) (k0 := 39) (k1 := 7) (sp := 0) (dp := 0) (len := 4) (by refine ivu1_6 ?_ (by omega) (by omega); exact hI80) (by decide +kernel) rfl
  have hF102 : Fr scCk σ (cpy (up τ80 1 6 (τ80 33 6)) 39 7 0 0 4) := by refine Fr.cpy ?_ (by intro j; first | rfl | (unfold scCk; simp; try omega)); refine Fr.up ?_ (by first | rfl | (unfold scCk; simp; try omega)); exact hF80
  generalize hcp102 : cpy (up τ80 1 6 (τ80 33 6)) 39 7 0 0 4 = τ102 at hI102 hF102 ⊢
  refine g_aload_n (M := mX5_copy) (pc := 105) dX5_copy_105 rfl (k := ?_)
  refine g_getr (M := mX5_copy) (pc := 106) (by rfl) fX5_8 kX5_30 dX5_copy_106 (by rfl) (kk := ?_)
  refine g_iconst (M := mX5_copy) (pc := 109) dX5_copy_109 (k := ?_)
  refine g_aload_n (M := mX5_copy) (pc := 110) dX5_copy_110 rfl (k := ?_)
  refine g_getr (M := mX5_copy) (pc := 111) (by rfl) fX5_8 kX5_30 dX5_copy_111 (by rfl) (kk := ?_)
  refine g_iconst (M := mX5_copy) (pc := 114) dX5_copy_114 (k := ?_)
  refine g_iconst (M := mX5_copy) (pc := 115) dX5_copy_115 (k := ?_)
  refine g_copy (M := mX5_copy) (pc := 116) cpX5_65 (by rfl) (by rfl) (by decide) (by omega) (by omega) (by omega) (by omega) (by omega) dX5_copy_116 (by omega) (kk := ?_)
  have hI116 := iv_cpy (σ := τ102) (k0 := 40) (k1 := 8) (sp := 0) (dp := 0) (len := 4) (by exact hI102) (by decide +kernel) rfl
  have hF116 : Fr scCk σ (cpy τ102 40 8 0 0 4) := by refine Fr.cpy ?_ (by intro j; first | rfl | (unfold scCk; simp; try omega)); exact hF102
  generalize hcp116 : cpy τ102 40 8 0 0 4 = τ116 at hI116 hF116 ⊢
  refine g_aload_n (M := mX5_copy) (pc := 119) dX5_copy_119 rfl (k := ?_)
  refine g_getr (M := mX5_copy) (pc := 120) (by rfl) fX5_9 kX5_33 dX5_copy_120 (by rfl) (kk := ?_)
  refine g_iconst (M := mX5_copy) (pc := 123) dX5_copy_123 (k := ?_)
  refine g_aload_n (M := mX5_copy) (pc := 124) dX5_copy_124 rfl (k := ?_)
  refine g_getr (M := mX5_copy) (pc := 125) (by rfl) fX5_9 kX5_33 dX5_copy_125 (by rfl) (kk := ?_)
  refine g_iconst (M := mX5_copy) (pc := 128) dX5_copy_128 (k := ?_)
  refine g_iconst (M := mX5_copy) (pc := 129) dX5_copy_129 (k := ?_)
  refine g_copy (M := mX5_copy) (pc := 130) cpX5_65 (by rfl) (by rfl) (by decide) (by omega) (by omega) (by omega) (by omega) (by omega) dX5_copy_130 (by omega) (kk := ?_)
  have hI130 := iv_cpy (σ := τ116) (k0 := 41) (k1 := 9) (sp := 0) (dp := 0) (len := 4) (by exact hI116) (by decide +kernel) rfl
  have hF130 : Fr scCk σ (cpy τ116 41 9 0 0 4) := by refine Fr.cpy ?_ (by intro j; first | rfl | (unfold scCk; simp; try omega)); exact hF116
  generalize hcp130 : cpy τ116 41 9 0 0 4 = τ130 at hI130 hF130 ⊢
  refine g_aload_n (M := mX5_copy) (pc := 133) dX5_copy_133 rfl (k := ?_)
  refine g_getr (M := mX5_copy) (pc := 134) (by rfl) fX5_10 kX5_41 dX5_copy_134 (by rfl) (kk := ?_)
  refine g_aload_n (M := mX5_copy) (pc := 137) dX5_copy_137 rfl (k := ?_)
  refine g_getr (M := mX5_copy) (pc := 138) (by rfl) fX5_10 kX5_41 dX5_copy_138 (by rfl) (kk := ?_)
  refine g_cV1V (M := mX5_copy) (pc := 141) (c_X4_copy_10 Γ t _ hI130) qX4_copy vX4_copy sX4_copy kX5_71 dX5_copy_141 (kk := ?_)
  rintro τ141 ⟨hz141, ha141, hb141, hI141, hG141⟩
  have hF141 : Fr scCk σ τ141 := by refine Fr.tr ?_ (Fr.mono hG141 sb_scC10_scCk); exact hF130
  refine g_aload_n (M := mX5_copy) (pc := 144) dX5_copy_144 rfl (k := ?_)
  refine g_getr (M := mX5_copy) (pc := 145) (by rfl) fX5_11 kX5_45 dX5_copy_145 (by rfl) (kk := ?_)
  refine g_aload_n (M := mX5_copy) (pc := 148) dX5_copy_148 rfl (k := ?_)
  refine g_getr (M := mX5_copy) (pc := 149) (by rfl) fX5_11 kX5_45 dX5_copy_149 (by rfl) (kk := ?_)
  refine g_cV1V (M := mX5_copy) (pc := 152) (c_X4_copy_13 Γ t _ hI141) qX4_copy vX4_copy sX4_copy kX5_71 dX5_copy_152 (kk := ?_)
  rintro τ152 ⟨hz152, ha152, hb152, hI152, hG152⟩
  have hF152 : Fr scCk σ τ152 := by refine Fr.tr ?_ (Fr.mono hG152 sb_scC13_scCk); exact hF141
  refine g_aload_n (M := mX5_copy) (pc := 155) dX5_copy_155 rfl (k := ?_)
  refine g_getr (M := mX5_copy) (pc := 156) (by rfl) fX5_12 kX5_48 dX5_copy_156 (by rfl) (kk := ?_)
  refine g_aload_n (M := mX5_copy) (pc := 159) dX5_copy_159 rfl (k := ?_)
  refine g_getr (M := mX5_copy) (pc := 160) (by rfl) fX5_12 kX5_48 dX5_copy_160 (by rfl) (kk := ?_)
  refine g_cV1V (M := mX5_copy) (pc := 163) (c_X4_copy_16 Γ t _ hI152) qX4_copy vX4_copy sX4_copy kX5_71 dX5_copy_163 (kk := ?_)
  rintro τ163 ⟨hz163, ha163, hb163, hI163, hG163⟩
  have hF163 : Fr scCk σ τ163 := by refine Fr.tr ?_ (Fr.mono hG163 sb_scC16_scCk); exact hF152
  refine g_aload_n (M := mX5_copy) (pc := 166) dX5_copy_166 rfl (k := ?_)
  refine g_aload_n (M := mX5_copy) (pc := 167) dX5_copy_167 rfl (k := ?_)
  refine g_get (M := mX5_copy) (pc := 168) (ji := 13) (by rfl) fX5_13 kX5_51 dX5_copy_168 (kk := fun hr168 => ?_)
  refine g_put (M := mX5_copy) (pc := 171) (ji := 13) (by rfl) fX5_13 kX5_51 dX5_copy_171 (by omega) (kk := ?_)
  refine g_vret (M := mX5_copy) (pc := 174) rfl dX5_copy_174 rfl ⟨_, rfl, rfl, ?_⟩
  refine ⟨?_, ?_, ?_⟩
  · exact ⟨by (simp only [up_same, up_cell, up_slot, ne_eq, not_false_eq_true, Nat.reduceEqDiff, Int.reduceEq, reduceCtorEq, Nat.reduceAdd, Int.reduceAdd, Int.reduceSub]; rw [hG163 1 0 rfl, hG152 1 0 rfl, hG141 1 0 rfl, ← hcp130, ← hcp116, ← hcp102, ← hcp80, ← hcp65, ← hcp50, ← hcp35, ← hcp20]; simp [cpy, up]), by (simp only [up_same, up_cell, up_slot, ne_eq, not_false_eq_true, Nat.reduceEqDiff, Int.reduceEq, reduceCtorEq, Nat.reduceAdd, Int.reduceAdd, Int.reduceSub]; rw [hG163 1 6 rfl, hG152 1 6 rfl, hG141 1 6 rfl, ← hcp130, ← hcp116, ← hcp102, ← hcp80, ← hcp65, ← hcp50, ← hcp35, ← hcp20]; simp [cpy, up]), by (simp only [up_same, up_cell, up_slot, ne_eq, not_false_eq_true, Nat.reduceEqDiff, Int.reduceEq, reduceCtorEq, Nat.reduceAdd, Int.reduceAdd, Int.reduceSub]; exact hF163 33 13 rfl), by (intro j h0 h1; simp only [up_same, up_cell, up_slot, ne_eq, not_false_eq_true, Nat.reduceEqDiff, Int.reduceEq, reduceCtorEq, Nat.reduceAdd, Int.reduceAdd, Int.reduceSub]; rw [hG163 2 j rfl, hG152 2 j rfl, hG141 2 j rfl, ← hcp130, ← hcp116, ← hcp102, ← hcp80, ← hcp65, ← hcp50, ← hcp35, ← hcp20]; simp [cpy, up, h0, h1]), by (intro j h0 h1; simp only [up_same, up_cell, up_slot, ne_eq, not_false_eq_true, Nat.reduceEqDiff, Int.reduceEq, reduceCtorEq, Nat.reduceAdd, Int.reduceAdd, Int.reduceSub]; rw [hG163 3 j rfl, hG152 3 j rfl, hG141 3 j rfl, ← hcp130, ← hcp116, ← hcp102, ← hcp80, ← hcp65, ← hcp50, ← hcp35, ← hcp20]; simp [cpy, up, h0, h1]), by (intro j h0 h1; simp only [up_same, up_cell, up_slot, ne_eq, not_false_eq_true, Nat.reduceEqDiff, Int.reduceEq, reduceCtorEq, Nat.reduceAdd, Int.reduceAdd, Int.reduceSub]; rw [hG163 4 j rfl, hG152 4 j rfl, hG141 4 j rfl, ← hcp130, ← hcp116, ← hcp102, ← hcp80, ← hcp65, ← hcp50, ← hcp35, ← hcp20]; simp [cpy, up, h0, h1]), by (intro j h0 h1; simp only [up_same, up_cell, up_slot, ne_eq, not_false_eq_true, Nat.reduceEqDiff, Int.reduceEq, reduceCtorEq, Nat.reduceAdd, Int.reduceAdd, Int.reduceSub]; rw [hG163 5 j rfl, hG152 5 j rfl, hG141 5 j rfl, ← hcp130, ← hcp116, ← hcp102, ← hcp80, ← hcp65, ← hcp50, ← hcp35, ← hcp20]; simp [cpy, up, h0, h1]), by (intro j h0 h1; simp only [up_same, up_cell, up_slot, ne_eq, not_false_eq_true, Nat.reduceEqDiff, Int.reduceEq, reduceCtorEq, Nat.reduceAdd, Int.reduceAdd, Int.reduceSub]; rw [hG163 6 j rfl, hG152 6 j rfl, hG141 6 j rfl, ← hcp130, ← hcp116, ← hcp102, ← hcp80, ← hcp65, ← hcp50, ← hcp35, ← hcp20]; simp [cpy, up, h0, h1]), by (intro j h0 h1; simp only [up_same, up_cell, up_slot, ne_eq, not_false_eq_true, Nat.reduceEqDiff, Int.reduceEq, reduceCtorEq, Nat.reduceAdd, Int.reduceAdd, Int.reduceSub]; rw [hG163 7 j rfl, hG152 7 j rfl, hG141 7 j rfl, ← hcp130, ← hcp116, ← hcp102, ← hcp80, ← hcp65, ← hcp50, ← hcp35, ← hcp20]; simp [cpy, up, h0, h1]), by (intro j h0 h1; simp only [up_same, up_cell, up_slot, ne_eq, not_false_eq_true, Nat.reduceEqDiff, Int.reduceEq, reduceCtorEq, Nat.reduceAdd, Int.reduceAdd, Int.reduceSub]; rw [hG163 8 j rfl, hG152 8 j rfl, hG141 8 j rfl, ← hcp130, ← hcp116, ← hcp102, ← hcp80, ← hcp65, ← hcp50, ← hcp35, ← hcp20]; simp [cpy, up, h0, h1]), by (intro j h0 h1; simp only [up_same, up_cell, up_slot, ne_eq, not_false_eq_true, Nat.reduceEqDiff, Int.reduceEq, reduceCtorEq, Nat.reduceAdd, Int.reduceAdd, Int.reduceSub]; rw [hG163 9 j rfl, hG152 9 j rfl, hG141 9 j rfl, ← hcp130, ← hcp116, ← hcp102, ← hcp80, ← hcp65, ← hcp50, ← hcp35, ← hcp20]; simp [cpy, up, h0, h1]), by (simp only [up_same, up_cell, up_slot, ne_eq, not_false_eq_true, Nat.reduceEqDiff, Int.reduceEq, reduceCtorEq, Nat.reduceAdd, Int.reduceAdd, Int.reduceSub]; rw [hG163 10 2 rfl, hG152 10 2 rfl, hz141]; exact hF130 42 2 rfl), by (intro j h0 h1; simp only [up_same, up_cell, up_slot, ne_eq, not_false_eq_true, Nat.reduceEqDiff, Int.reduceEq, reduceCtorEq, Nat.reduceAdd, Int.reduceAdd, Int.reduceSub]; rw [hG163 11 j rfl, hG152 11 j rfl, ha141 j h0 (by rw [hF130 42 2 rfl]; exact h1)]; exact hF130 43 j rfl), by (intro j h0 h1; simp only [up_same, up_cell, up_slot, ne_eq, not_false_eq_true, Nat.reduceEqDiff, Int.reduceEq, reduceCtorEq, Nat.reduceAdd, Int.reduceAdd, Int.reduceSub]; rw [hG163 12 j rfl, hG152 12 j rfl, hb141 j h0 (by rw [hF130 42 2 rfl]; exact h1)]; exact hF130 44 j rfl), by (simp only [up_same, up_cell, up_slot, ne_eq, not_false_eq_true, Nat.reduceEqDiff, Int.reduceEq, reduceCtorEq, Nat.reduceAdd, Int.reduceAdd, Int.reduceSub]; rw [hG163 13 2 rfl, hz152]; exact hF141 45 2 rfl), by (intro j h0 h1; simp only [up_same, up_cell, up_slot, ne_eq, not_false_eq_true, Nat.reduceEqDiff, Int.reduceEq, reduceCtorEq, Nat.reduceAdd, Int.reduceAdd, Int.reduceSub]; rw [hG163 14 j rfl, ha152 j h0 (by rw [hF141 45 2 rfl]; exact h1)]; exact hF141 46 j rfl), by (intro j h0 h1; simp only [up_same, up_cell, up_slot, ne_eq, not_false_eq_true, Nat.reduceEqDiff, Int.reduceEq, reduceCtorEq, Nat.reduceAdd, Int.reduceAdd, Int.reduceSub]; rw [hG163 15 j rfl, hb152 j h0 (by rw [hF141 45 2 rfl]; exact h1)]; exact hF141 47 j rfl), by (simp only [up_same, up_cell, up_slot, ne_eq, not_false_eq_true, Nat.reduceEqDiff, Int.reduceEq, reduceCtorEq, Nat.reduceAdd, Int.reduceAdd, Int.reduceSub]; rw [hz163]; exact hF152 48 2 rfl), by (intro j h0 h1; simp only [up_same, up_cell, up_slot, ne_eq, not_false_eq_true, Nat.reduceEqDiff, Int.reduceEq, reduceCtorEq, Nat.reduceAdd, Int.reduceAdd, Int.reduceSub]; rw [ha163 j h0 (by rw [hF152 48 2 rfl]; exact h1)]; exact hF152 49 j rfl), by (intro j h0 h1; simp only [up_same, up_cell, up_slot, ne_eq, not_false_eq_true, Nat.reduceEqDiff, Int.reduceEq, reduceCtorEq, Nat.reduceAdd, Int.reduceAdd, Int.reduceSub]; rw [hb163 j h0 (by rw [hF152 48 2 rfl]; exact h1)]; exact hF152 50 j rfl)⟩
  · refine iv_free ?_ (by rfl); exact hI163
  · refine Fr.up ?_ (by first | rfl | (unfold scCk; simp; try omega)); exact hF163
