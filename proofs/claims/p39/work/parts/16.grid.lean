section GG
variable {Γ : KT} {M : MI} {d : Nat} {B : Nat × Nat} {post : Option Value → St → Prop} {u : Nat × Nat} {pc : Nat} {L : List (Option Value)} {st : List Value} {n : Nat} {ρ : Nat → Nat → Nat} {σ : Nat → Int → Int}
/-- the outer row's references to the rows behind it -/
def grd (ρ : Nat → Nat → Nat) (n N : Nat) : Nat → Nat → Nat := fun a b => if a = n ∧ b < N then n + 1 + b + 1 else ρ a b
theorem grd_outer (c : ClassId) (N h0 : Nat) : ∀ i : Nat, Jvm.Free.Multi.outerC c N h0 i = arrV c N (fun j => va_rf (if j < i then some (h0 + 1 + j) else none))
  | 0 => by
    show ({ cls := c, slots := Array.replicate N .null, vm := .none } : Cell) = _
    rw [arrV_new]
    refine congrArg (arrV c N) (funext fun j => ?_)
    simp [va_rf]
  | i + 1 => by
    show (Jvm.Free.Multi.outerC c N h0 i).setSlot i (.ref (h0 + 1 + i)) = _
    rw [grd_outer c N h0 i, arrV_store]
    refine congrArg (arrV c N) (funext fun j => ?_)
    by_cases e : j = i
    · subst e
      simp [updV, va_rf]
    · by_cases h : j < i
      · simp [updV, e, h, Nat.lt_succ_of_lt h]
      · simp [updV, e, h, show ¬ j < i + 1 by omega]
theorem g_grid {idx t t' N K : Nat} {ty : FieldType} (ht : t = 5 ∧ t' = 1 ∧ ty = .int ∨ t = 6 ∧ t' = 2 ∧ ty = .long) (hs : shp n = (t, N)) (hrow : ∀ i, i < N → shp (n + 1 + i) = (t', K)) (hcl : Cond.classLink M.1.cls idx ("[" ++ (FieldType.array ty).toString) ∈ tblG) (hzr : ∀ k j, n ≤ k → ρ k j = 0) (hzs : ∀ k j, n ≤ k → σ k j = 0) (hN : N < 1000) (hK : K < 1000) (hd : decode M.2.1 pc = .ok (.multianewarray idx 2, 4)) (hu1 : u.1 + 1 + N ≤ B.1) (hu2 : u.2 + N + N * K ≤ B.2)
    (kk : G Γ M d B post (u.1 + 1 + N, u.2 + N + N * K) (pc + 4) L (vR Γ n :: st) (n + 1 + N, grd ρ n N, σ)) : G Γ M d B post u pc L (vI K :: vI N :: st) (n, ρ, σ) := by
  intro p e R s m args below meth cd Q H locs ls Cc F hl' hW hS
  obtain ⟨hx, hb, hml, hown, hts, hKS, hname, hR⟩ := id Cc
  have hz' : H.size = kB Γ + n := hW.1
  have rN : R32 (N : Int) := by omega
  have rK : R32 (K : Int) := by omega
  have cN : (Int32.ofInt (N : Int)).toNatClampNeg = N := by rw [z_clamp (by omega) rN]; omega
  have cK : (Int32.ofInt (K : Int)).toNatClampNeg = K := by rw [z_clamp (by omega) rK]; omega
  have hz0 : R32 0 := by omega
  have nN : ¬ Int32.ofInt (N : Int) < 0 := fun q => by have := (z_lt rN hz0).mp q; omega
  have nK : ¬ Int32.ofInt (K : Int) < 0 := fun q => by have := (z_lt rK hz0).mp q; omega
  have hover : (Cond.arrayOver (.array ty)).before args s = true := by
    rcases ht with ⟨-, -, rfl⟩ | ⟨-, -, rfl⟩
    · exact hKS.2.2.2.2.2.2.2.2.2.2.2.1 _ (Or.inl rfl)
    · exact hKS.2.2.2.2.2.2.2.2.2.2.2.1 _ (Or.inr rfl)
  have harr : (Cond.arrayClass ty).before args s = true := by
    rcases ht with ⟨-, -, rfl⟩ | ⟨-, -, rfl⟩
    · exact hts _ (memT arr_int rfl)
    · exact hts _ (memT arr_long rfl)
  have hnm : ("[" ++ (aty t).toString) = ("[" ++ (FieldType.array ty).toString) ∧ ("[" ++ (aty t').toString) = (FieldType.array ty).toString ∧ 1 ≤ t ∧ t ≤ 6 ∧ 1 ≤ t' ∧ t' ≤ 6 ∧ componentBytes ty ≤ 8 ∧ fits ty (defaultValue ty) = true ∧ (defaultValue ty).isDefault = true := by
    rcases ht with ⟨rfl, rfl, rfl⟩ | ⟨rfl, rfl, rfl⟩
    · exact ⟨rfl, rfl, by decide, by decide, by decide, by decide, by decide, rfl, rfl⟩
    · exact ⟨rfl, rfl, by decide, by decide, by decide, by decide, by decide, rfl, rfl⟩
  obtain ⟨e1, e2, a1, a2, a3, a4, hcb, hdf, hdd⟩ := hnm
  intro T hT Xs
  obtain ⟨vm₁, cA, comp, -, fA, fC, -, -, X', step⟩ := Xs.multianewarray2F hx hown (hts _ hcl) hover harr (g := F0 m pc ls (vI K :: vI N :: st)) rfl (by rw [hb]; exact hd) (n := Int32.ofInt N) (k := Int32.ofInt K) (rest := st) rfl nN nK (by rw [cN]; omega) (by rw [cK]; exact Nat.le_trans (Nat.mul_le_mul (Nat.le_of_lt hK) hcb) (by decide)) (by rw [cK]; omega) hdf hdd (by rw [cN]; omega) (by rw [cN, cK]; omega)
  rw [cN, cK] at X' step
  have kA1 : cA = kA Γ t := by
    have := (hKS.2.1 t a1 a2).2
    rw [e1] at this
    exact Option.some.inj (fA.symm.trans this)
  have kA2 : comp = kA Γ t' := by
    have := (hKS.2.1 t' a3 a4).2
    rw [e2] at this
    exact Option.some.inj (fC.symm.trans this)
  subst kA1; subst kA2
  generalize hF : Jvm.Free.Multi.fill (T.setVm vm₁) (kA Γ t) (kA Γ t') N K (defaultValue ty) N = Fs at X' step
  have hTh : (T.setVm vm₁).heap = H := hT
  obtain ⟨f1, f2, -, -⟩ := Jvm.Free.Multi.fill_facts (T.setVm vm₁) (kA Γ t) (kA Γ t') N K (defaultValue ty) N
  rw [hF, hTh] at f1 f2
  have hold : ∀ x : Nat, x < H.size → Fs.heap[x]? = H[x]? := fun x hx => by
    have := Jvm.Free.Multi.fill_old (T.setVm vm₁) (kA Γ t) (kA Γ t') N K (defaultValue ty) (a := x) (by rw [hTh]; exact hx) N
    rw [hF, hTh] at this
    exact this
  have hin : ∀ j : Nat, j < N → Fs.heap[H.size + 1 + j]? = some (Jvm.Free.Multi.innerC (kA Γ t') K (defaultValue ty)) := fun j hj => by
    have := Jvm.Free.Multi.fill_inner (T.setVm vm₁) (kA Γ t) (kA Γ t') N K (defaultValue ty) N j hj
    rw [hF, hTh] at this
    exact this
  rw [grd_outer] at f2
  have hinner : Jvm.Free.Multi.innerC (kA Γ t') K (defaultValue ty) = arrV (kA Γ t') K (fun _ => defaultValue ty) := arrV_new _ _ _
  rw [hinner] at hin
  rw [hT, hz'] at step
  have hWF : Wd Γ (n + 1 + N, grd ρ n N, σ) Fs.heap := by
    refine ⟨?_, fun k hk => ?_, fun q hq => ?_, hW.2.2.2⟩
    · show Fs.heap.size = kB Γ + (n + 1 + N)
      omega
    · have hk : k < n + 1 + N := hk
      by_cases h1 : k < n
      · have e : wE Γ (n + 1 + N, grd ρ n N, σ) k = wE Γ (n, ρ, σ) k := by
          have h2 : ∀ j, grd ρ n N k j = ρ k j := fun j => if_neg (fun q => by omega)
          unfold wE fsOf
          simp only [fval, h2]
        rw [e]
        exact (hW.2.1 k h1).kept (hold _ (show kB Γ + k < H.size by omega))
      · by_cases h2 : k = n
        · subst h2
          rw [wE_grid hs (by omega)]
          show Fs.heap[kB Γ + k]? = some (vp_cell _ _)
          rw [vp_cell_q, ← hz', f2]
          refine congrArg some ?_
          show arrV _ _ _ = arrV _ _ _
          unfold arrV
          congr 1
          refine congrArg Array.ofFn (funext fun j => ?_)
          show va_rf (if j.1 < N then some (H.size + 1 + j.1) else none) = va_rf (rfv Γ (grd ρ k N k j.1))
          have hj := j.2
          unfold rfv grd
          have hg : (if k = k ∧ j.1 < N then k + 1 + j.1 + 1 else ρ k j.1) = k + 1 + j.1 + 1 := if_pos ⟨rfl, hj⟩
          rw [if_pos hj, hg, if_neg (by omega)]
          refine congrArg va_rf (congrArg some ?_)
          omega
        · obtain ⟨i, hi, rfl⟩ : ∃ i, i < N ∧ k = n + 1 + i := ⟨k - n - 1, by omega, by omega⟩
          have hr := hin i hi
          have hr2 : Fs.heap[kB Γ + (n + 1 + i)]? = some (arrV (kA Γ t') K (fun _ => defaultValue ty)) := by
            rw [← hr]; congr 1; omega
          rcases ht with ⟨-, rfl, rfl⟩ | ⟨-, rfl, rfl⟩
          · rw [wE_int (hrow i hi) (by simp)]
            show Fs.heap[_]? = some (vp_cell _ _)
            rw [vp_cell_i, hr2]
            refine congrArg some (congrArg (arrV _ _) (funext fun j => ?_))
            show Value.int 0 = Value.int (Int32.ofInt (σ (n + 1 + i) j))
            rw [hzs _ _ (by omega)]; rfl
          · rw [wE_long (hrow i hi)]
            show Fs.heap[_]? = some (vp_cell _ _)
            rw [vp_cell_l, hr2]
            refine congrArg some (congrArg (arrV _ _) (funext fun j => ?_))
            show Value.long 0 = Value.long (Int64.ofInt (σ (n + 1 + i) j))
            rw [hzs _ _ (by omega)]; rfl
    · rw [hold q (by omega)]; exact hW.2.2.1 q hq
  have K2 := kk p e R s m args below meth cd Q Fs.heap locs ls Cc F hl' hWF hS
  obtain ⟨t2, b1, b2⟩ := K2 Fs rfl X'
  exact ⟨t2, step t2 b1, b2⟩
end GG
