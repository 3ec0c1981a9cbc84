section GM
variable {Γ : KT} {M : MI} {d : Nat} {B : Nat × Nat} {post : Option Value → St → Prop} {u : Nat × Nat} {pc : Nat} {L : List (Option Value)} {st : List Value} {n : Nat} {ρ : Nat → Nat → Nat} {σ : Nat → Int → Int}
variable {p : Program} {e : Env} {R : Room} {s : State} {m : MethodId} {args : Array Value} {below : List Frame} {meth : Method} {cd : Code} {Q : State → Prop} {H : Heap} {locs : List Loc} {ls : Array Slot} {τ : St} {cells slots : Nat}
/-- a stretch of row k0 copied into row k1 -/
def cpy (σ : Nat → Int → Int) (k0 k1 : Nat) (sp dp len : Int) : Nat → Int → Int := fun a b => if a = k1 ∧ dp ≤ b ∧ b < dp + len then σ k0 (sp + (b - dp)) else σ a b
theorem nz_cpy {k0 k1 t N0 N1 : Nat} {sp dp len : Int} (h : Nz σ) (h0 : shp k0 = (t, N0)) (h1 : shp k1 = (t, N1)) : Nz (cpy σ k0 k1 sp dp len) := by
  intro a b
  by_cases q : a = k1 ∧ dp ≤ b ∧ b < dp + len
  · rw [show cpy σ k0 k1 sp dp len a b = σ k0 (sp + (b - dp)) from if_pos q]
    have := h k0 (sp + (b - dp))
    rw [h0] at this
    rw [q.1, h1]; exact this
  · rw [show cpy σ k0 k1 sp dp len a b = σ a b from if_neg q]
    exact h a b
theorem fval_cpy_ne {k0 k1 k' : Nat} {sp dp len : Int} (h : k' ≠ k1) (i t : Nat) : fval Γ (n, ρ, cpy σ k0 k1 sp dp len) k' i t = fval Γ (n, ρ, σ) k' i t := by
  unfold fval cpy; simp [h]
theorem wE_cpy_ne {k0 k1 : Nat} {sp dp len : Int} (k' : Nat) (h : k' ≠ k1) : wE Γ (n, ρ, cpy σ k0 k1 sp dp len) k' = wE Γ (n, ρ, σ) k' := by
  unfold wE fsOf
  simp only [fval_cpy_ne h, cpy, h, false_and, if_false]
theorem cpy_fun {α : Type} (f : Int → α) {k0 k1 : Nat} {sp dp len : Int} (h1 : 0 ≤ sp) (h2 : 0 ≤ dp) (h3 : 0 ≤ len) : va_cpy (fun j : Nat => f (σ k0 (j : Int))) (fun j : Nat => f (σ k1 (j : Int))) sp.toNat dp.toNat len.toNat = fun j : Nat => f (cpy σ k0 k1 sp dp len k1 (j : Int)) := by
  funext j
  unfold va_cpy cpy
  by_cases q : dp.toNat ≤ j ∧ j < dp.toNat + len.toNat
  · have e : ((sp.toNat + (j - dp.toNat) : Nat) : Int) = sp + ((j : Int) - dp) := by omega
    rw [if_pos q, if_pos ⟨rfl, by omega, by omega⟩]
    show f (σ k0 ((sp.toNat + (j - dp.toNat) : Nat) : Int)) = _
    rw [e]
  · rw [if_neg q, if_neg (fun z => q ⟨by omega, by omega⟩)]
/-- what System.arraycopy is called by -/
def CPw (M : MI) (idx : Nat) : Prop := Cond.methodLink M.1.cls idx arraycopyName ∈ tblG ∧ (Cond.native arraycopyName) ∈ tblG ∧ Cond.static arraycopyName ∈ tblG ∧ Cond.initialized "java/lang/System" ∈ tblG
theorem g_copy {idx k0 k1 t N0 N1 : Nat} {sp dp len : Int} (hw : CPw M idx) (h0 : shp k0 = (t, N0)) (h1 : shp k1 = (t, N1)) (ht : t = 1 ∨ t = 2) (hsp : 0 ≤ sp) (hdp : 0 ≤ dp) (hln : 0 ≤ len) (hb0 : sp + len ≤ N0) (hb1 : dp + len ≤ N1) (hd : decode M.2.1 pc = .ok (.invokestatic idx, 3)) (hdp1 : 1 ≤ d) (hk0 : k0 < n := by decide) (hk1 : k1 < n := by decide) (hst : stW st ≤ 8 := by exact Nat.le_of_ble_eq_true rfl)
    (kk : G Γ M d B post u (pc + 3) L st (n, ρ, cpy σ k0 k1 sp dp len)) : G Γ M d B post u pc L (vI len :: vI dp :: vR Γ k1 :: vI sp :: vR Γ k0 :: st) (n, ρ, σ) := by
  intro p e R s m args below meth cd Q H locs ls C F hl hW hS
  obtain ⟨hx, hb, hml, hown, hts, hKS, hname, hR⟩ := id C
  have s0 := shp_small h0
  have s1 := shp_small h1
  have r1 : R32 sp := by omega
  have r2 : R32 dp := by omega
  have r3 : R32 len := by omega
  have hz : R32 0 := by omega
  have n1 : ¬ Int32.ofInt sp < 0 := fun q => by have := (z_lt r1 hz).mp q; omega
  have n2 : ¬ Int32.ofInt dp < 0 := fun q => by have := (z_lt r2 hz).mp q; omega
  have n3 : ¬ Int32.ofInt len < 0 := fun q => by have := (z_lt r3 hz).mp q; omega
  have c1 := z_clamp hsp r1
  have c2 := z_clamp hdp r2
  have c3 := z_clamp hln r3
  have hroom : (st.map fun v => v.category).sum + (nativeFrameWords "java/lang/System" "arraycopy" 5 + 11) ≤ R.locals := by
    have : nativeFrameWords "java/lang/System" "arraycopy" 5 ≤ 30 := by decide
    have : stW st + 41 ≤ R.locals := by omega
    show stW st + _ ≤ _
    omega
  have done : ∀ (H' : Heap) (locs' : List Loc), H'[kB Γ + k1]? = some (match wE Γ (n, ρ, cpy σ k0 k1 sp dp len) k1 with | .inl c => vp_cell c.1 c.2 | .inr _ => arrV 0 0 (fun _ => .null)) → H'.size = H.size → (∀ q, q ≠ kB Γ + k1 → H'[q]? = H[q]?) → (∀ q ∈ locs', stA Γ q.base) → W p (kL Γ) e R s m args below meth cd H' locs' u.1 u.2 Q (F0 m (pc + 3) ls st) := by
    intro H' locs' e1 z oq hS'
    refine kk p e R s m args below meth cd Q H' locs' ls C F hl (wd_put hW ?_ oq z rfl (fun k' h => wE_cpy_ne k' h) (nz_cpy hW.2.2.2 h0 h1)) hS'
    rcases ht with rfl | rfl
    · rw [wE_int h1 (by simp)] at e1 ⊢; exact e1
    · rw [wE_long h1] at e1 ⊢; exact e1
  have hprim : ∀ a : Int, fits .int (vI a) = true := fun a => rfl
  rcases ht with rfl | rfl
  · have hc0 := w_cell hW hk0 (wE_int h0 (by simp))
    have hc1 := w_cell hW hk1 (wE_int h1 (by simp))
    obtain ⟨-, ka, hka, cm0, hkk0⟩ := (hKS.2.1 1 (by decide) (by decide)).1 N0 (fun j => .int (Int32.ofInt (σ k0 (j : Int))))
    obtain ⟨-, kb, hkb, cm1, hkk1⟩ := (hKS.2.1 1 (by decide) (by decide)).1 N1 (fun j => .int (Int32.ofInt (σ k1 (j : Int))))
    intro T hT X
    obtain ⟨vm', X', step⟩ := X.arraycopy hx hown (hts _ hw.1) (hts _ hw.2.1) (hts _ hw.2.2.1) (hts _ hw.2.2.2) (src := kB Γ + k0) (dst := kB Γ + k1) (cs := arrV (kA Γ 1) N0 (fun j => .int (Int32.ofInt (σ k0 (j : Int))))) (cd := arrV (kA Γ 1) N1 (fun j => .int (Int32.ofInt (σ k1 (j : Int))))) (srcPos := Int32.ofInt sp) (destPos := Int32.ofInt dp) (n := Int32.ofInt len) (by rw [hT]; exact hc0) (by rw [hT]; exact hc1)
      (fun _ h => by cases h) (fun _ h => by cases h) (fun h => by cases h) (fun h => by cases h) hka hkb hkk0 hkk1 (by simp [aty, refKind]) n1 n2 n3
      (by rw [z_toInt r1, z_toInt r3, arrV_size]; omega)
      (by rw [z_toInt r2, z_toInt r3, arrV_size]; omega)
      (fun vm₁ _ i hi => by
        have e : (arrV (kA Γ 1) N0 (fun j => .int (Int32.ofInt (σ k0 (j : Int))))).slots.getD ((Int32.ofInt sp).toNatClampNeg + i) .null = .int (Int32.ofInt (σ k0 (((Int32.ofInt sp).toNatClampNeg + i : Nat) : Int))) := by
          rw [Array.getD_eq_getD_getElem?, arrV_read _ _ (by rw [c1]; rw [c3] at hi; omega)]
          rfl
        exact ⟨by rw [e]; rfl, by rw [e]; trivial⟩)
      (g := F0 m pc ls (vI len :: vI dp :: vR Γ k1 :: vI sp :: vR Γ k0 :: st)) rfl (by rw [hml]; exact hl.1) (rest := st) rfl (by rw [hb]; exact hd) (by omega) (by show 2 * 0 + _ + _ ≤ _; omega)
    have e1 := va_copied (fun z => Value.int z) (kA Γ 1) (kA Γ 1) (n0 := N0) (n1 := N1) (sp := sp.toNat) (dp := dp.toNat) (n := len.toNat) (fun j => Int32.ofInt (σ k0 (j : Int))) (fun j => Int32.ofInt (σ k1 (j : Int))) (by omega)
    have e2 : copied (arrV (kA Γ 1) N0 (fun j => .int (Int32.ofInt (σ k0 (j : Int))))) (arrV (kA Γ 1) N1 (fun j => .int (Int32.ofInt (σ k1 (j : Int))))) (Int32.ofInt sp) (Int32.ofInt dp) (Int32.ofInt len) = arrV (kA Γ 1) N1 (fun j => .int (Int32.ofInt (cpy σ k0 k1 sp dp len k1 (j : Int)))) := by
      unfold copied
      rw [c1, c2, c3, e1, cpy_fun (f := Int32.ofInt) hsp hdp hln]
    rw [e2] at X' step
    have hlt : kB Γ + k1 < T.heap.size := by rw [hT]; exact (Array.getElem?_eq_some_iff.mp hc1).1
    obtain ⟨t, a1, b1⟩ := done _ _ (by rw [wE_int h1 (by simp)]; exact heapAt_setCell_self _ hlt) (by rw [size_setCell]; exact congrArg Array.size hT) (fun q hq => by rw [heapAt_setCell_ne _ (Ne.symm hq)]; exact congrArg (fun h : Heap => h[q]?) hT) (fun q hq => by
        rcases List.mem_append.mp hq with h | h
        · exact hS q h
        · obtain ⟨z, -, hz⟩ := List.mem_map.mp h
          rw [← hz]; exact Nat.le_add_right _ _) _ rfl X'
    exact ⟨t, step t a1, b1⟩
  · have hc0 := w_cell hW hk0 (wE_long h0)
    have hc1 := w_cell hW hk1 (wE_long h1)
    obtain ⟨-, ka, hka, cm0, hkk0⟩ := (hKS.2.1 2 (by decide) (by decide)).1 N0 (fun j => .long (Int64.ofInt (σ k0 (j : Int))))
    obtain ⟨-, kb, hkb, cm1, hkk1⟩ := (hKS.2.1 2 (by decide) (by decide)).1 N1 (fun j => .long (Int64.ofInt (σ k1 (j : Int))))
    intro T hT X
    obtain ⟨vm', X', step⟩ := X.arraycopy hx hown (hts _ hw.1) (hts _ hw.2.1) (hts _ hw.2.2.1) (hts _ hw.2.2.2) (src := kB Γ + k0) (dst := kB Γ + k1) (cs := arrV (kA Γ 2) N0 (fun j => .long (Int64.ofInt (σ k0 (j : Int))))) (cd := arrV (kA Γ 2) N1 (fun j => .long (Int64.ofInt (σ k1 (j : Int))))) (srcPos := Int32.ofInt sp) (destPos := Int32.ofInt dp) (n := Int32.ofInt len) (by rw [hT]; exact hc0) (by rw [hT]; exact hc1)
      (fun _ h => by cases h) (fun _ h => by cases h) (fun h => by cases h) (fun h => by cases h) hka hkb hkk0 hkk1 (by simp [aty, refKind]) n1 n2 n3
      (by rw [z_toInt r1, z_toInt r3, arrV_size]; omega)
      (by rw [z_toInt r2, z_toInt r3, arrV_size]; omega)
      (fun vm₁ _ i hi => by
        have e : (arrV (kA Γ 2) N0 (fun j => .long (Int64.ofInt (σ k0 (j : Int))))).slots.getD ((Int32.ofInt sp).toNatClampNeg + i) .null = .long (Int64.ofInt (σ k0 (((Int32.ofInt sp).toNatClampNeg + i : Nat) : Int))) := by
          rw [Array.getD_eq_getD_getElem?, arrV_read _ _ (by rw [c1]; rw [c3] at hi; omega)]
          rfl
        exact ⟨by rw [e]; rfl, by rw [e]; trivial⟩)
      (g := F0 m pc ls (vI len :: vI dp :: vR Γ k1 :: vI sp :: vR Γ k0 :: st)) rfl (by rw [hml]; exact hl.1) (rest := st) rfl (by rw [hb]; exact hd) (by omega) (by show 2 * 0 + _ + _ ≤ _; omega)
    have e1 := va_copied (fun z => Value.long z) (kA Γ 2) (kA Γ 2) (n0 := N0) (n1 := N1) (sp := sp.toNat) (dp := dp.toNat) (n := len.toNat) (fun j => Int64.ofInt (σ k0 (j : Int))) (fun j => Int64.ofInt (σ k1 (j : Int))) (by omega)
    have e2 : copied (arrV (kA Γ 2) N0 (fun j => .long (Int64.ofInt (σ k0 (j : Int))))) (arrV (kA Γ 2) N1 (fun j => .long (Int64.ofInt (σ k1 (j : Int))))) (Int32.ofInt sp) (Int32.ofInt dp) (Int32.ofInt len) = arrV (kA Γ 2) N1 (fun j => .long (Int64.ofInt (cpy σ k0 k1 sp dp len k1 (j : Int)))) := by
      unfold copied
      rw [c1, c2, c3, e1, cpy_fun (f := Int64.ofInt) hsp hdp hln]
    rw [e2] at X' step
    have hlt : kB Γ + k1 < T.heap.size := by rw [hT]; exact (Array.getElem?_eq_some_iff.mp hc1).1
    obtain ⟨t, a1, b1⟩ := done _ _ (by rw [wE_long h1]; exact heapAt_setCell_self _ hlt) (by rw [size_setCell]; exact congrArg Array.size hT) (fun q hq => by rw [heapAt_setCell_ne _ (Ne.symm hq)]; exact congrArg (fun h : Heap => h[q]?) hT) (fun q hq => by
        rcases List.mem_append.mp hq with h | h
        · exact hS q h
        · obtain ⟨z, -, hz⟩ := List.mem_map.mp h
          rw [← hz]; exact Nat.le_add_right _ _) _ rfl X'
    exact ⟨t, step t a1, b1⟩
end GM
