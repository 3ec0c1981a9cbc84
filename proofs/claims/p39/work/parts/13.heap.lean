theorem cls_ok : ∀ (ci : Nat) (C : String) (T : u_T) (N : Nat), vwCl[ci]? = some (C, T, N) → (∀ w ∈ u_ws C T N, w ∈ tblG) ∧ (∃ ty : Nat → FieldType, ∀ k, k < N → parseFieldDescriptor (T k).2.2.1 = some (ty k)) ∧ (∀ a, a < N → ∀ b, b < N → a ≠ b → (T a).2.1 ≠ (T b).2.1) := by
  intro ci C T N h
  match ci, h with
  | 0, h => cases h; exact ⟨inX0, ⟨_, tyX0_ok⟩, nmX0⟩
  | 1, h => cases h; exact ⟨inX1, ⟨_, tyX1_ok⟩, nmX1⟩
  | 2, h => cases h; exact ⟨inX2, ⟨_, tyX2_ok⟩, nmX2⟩
  | 3, h => cases h; exact ⟨inX3, ⟨_, tyX3_ok⟩, nmX3⟩
  | 4, h => cases h; exact ⟨inX4, ⟨_, tyX4_ok⟩, nmX4⟩
  | 5, h => cases h; exact ⟨inX5, ⟨_, tyX5_ok⟩, nmX5⟩
  | 6, h => cases h; exact ⟨inX6, ⟨_, tyX6_ok⟩, nmX6⟩
  | 7, h => cases h; exact ⟨inX7, ⟨_, tyX7_ok⟩, nmX7⟩
  | 8, h => cases h; exact ⟨inX9, ⟨_, tyX9_ok⟩, nmX9⟩
  | 9, h => cases h; exact ⟨inX10, ⟨_, tyX10_ok⟩, nmX10⟩
  | 10, h => cases h; exact ⟨inX11, ⟨_, tyX11_ok⟩, nmX11⟩
  | k + 11, h => simp [vwCl] at h
theorem vp_V_fs {Γ : KT} {τ : St} {k j t : Nat} {l : List Nat} (h : l[j]? = some t) : vp_V (fsOf Γ τ k l) j = fval Γ τ k j t := by
  unfold vp_V
  rw [List.getD_eq_getElem?_getD, fsOf_get h]
  rfl
theorem wE_obj {Γ : KT} {τ : St} {k ci : Nat} (h : shp k = (0, ci)) : wE Γ τ k = .inr (ci, fsOf Γ τ k (fk ci)) := by
  unfold wE; rw [h]; rfl
theorem wE_int {Γ : KT} {τ : St} {k t N : Nat} (h : shp k = (t, N)) (ht : t = 1 ∨ t = 3 ∨ t = 4) : wE Γ τ k = .inl (kA Γ t, N, .inl (fun j => Int32.ofInt (τ.2.2 k j))) := by
  unfold wE; rw [h]; rcases ht with rfl | rfl | rfl <;> rfl
theorem wE_long {Γ : KT} {τ : St} {k N : Nat} (h : shp k = (2, N)) : wE Γ τ k = .inl (kA Γ 2, N, .inr (.inl (fun j => Int64.ofInt (τ.2.2 k j)))) := by
  unfold wE; rw [h]; rfl
theorem wE_grid {Γ : KT} {τ : St} {k t N : Nat} (h : shp k = (t, N)) (ht : t = 5 ∨ t = 6) : wE Γ τ k = .inl (kA Γ t, N, .inr (.inr (.inr (.inr (fun j => rfv Γ (τ.2.1 k j)))))) := by
  unfold wE; rw [h]; rcases ht with rfl | rfl <;> rfl
section GH
variable {Γ : KT} {M : MI} {d : Nat} {B : Nat × Nat} {post : Option Value → St → Prop} {u : Nat × Nat} {pc : Nat} {L : List (Option Value)} {st : List Value} {n : Nat} {ρ : Nat → Nat → Nat} {σ : Nat → Int → Int}
variable {p : Program} {e : Env} {R : Room} {s : State} {m : MethodId} {args : Array Value} {below : List Frame} {meth : Method} {cd : Code} {Q : State → Prop} {H : Heap} {locs : List Loc} {ls : Array Slot} {τ : St} {cells slots : Nat}
theorem link_nest {own : String} {idx : Nat} {ref nm ds host : String} (hK : KS Γ s) (h : Cond.fieldLinkNest own idx ref nm ds host ∈ nestL) : (Cond.fieldLinkNest own idx ref nm ds host).before args s = true := va_Nw.use rfl (hK.2.2.1 _ h)
/-- any field's value -/
theorem w_get {l : Launch} {k ci j tag idx : Nat} {ty : FieldType} {q : String × String × String × Bool} (C : Cx Γ M d B p R s m args meth cd) (hW : Wd Γ τ H) (hs : shp k = (0, ci)) (hk : k < τ.1) (hf : Fld ci j tag ty q) (hl : LinkF M.1.cls idx q.1 q.2.1 q.2.2.1) (hd : decode M.2.1 pc = .ok (.getfield idx, 3))
    (kk : W p l e R s m args below meth cd H locs cells slots Q (F0 m (pc + 3) ls (fval Γ τ k j tag :: st))) : W p l e R s m args below meth cd H locs cells slots Q (F0 m pc ls (vR Γ k :: st)) := by
  obtain ⟨hx, hb, hml, hown, hts, hKS, -⟩ := C
  obtain ⟨Cn, T, N, hc, hj, ht, rfl, hp⟩ := hf
  have hP := hW.2.1 k hk
  rw [wE_obj hs] at hP
  have hP1 : va_P (kD Γ) vwCl [(kB Γ + k, .inr (ci, fsOf Γ τ k (fk ci)))] H := by
    intro i q hi
    match i, hi with
    | 0, hi => cases hi; exact hP
    | i + 1, hi => simp at hi
  have hin := (cls_ok ci Cn T N hc).1
  rcases hl with hl | ⟨host, hl⟩
  · exact va_get hx hb hts hin hown hKS.1 hP1 0 rfl hc j hj (hts _ hl) (fun _ h => h) (fsOf_get ht) hd kk
  · exact va_getN hx hb hts hin hown hKS.1 hP1 0 rfl hc j hj (link_nest hKS hl) (fun _ h => h) (fsOf_get ht) hd kk
theorem g_get {k ci j idx : Nat} {ji : Int} {q : String × String × String × Bool} (hs : shp k = (0, ci)) (hf : Fld ci j 0 .int q) (hl : LinkF M.1.cls idx q.1 q.2.1 q.2.2.1) (hd : decode M.2.1 pc = .ok (.getfield idx, 3)) (hji : ((j : Nat) : Int) = ji := by rfl) (hk : k < n := by decide)
    (kk : R32 (σ k ji) → G Γ M d B post u (pc + 3) L (vI (σ k ji) :: st) (n, ρ, σ)) : G Γ M d B post u pc L (vR Γ k :: st) (n, ρ, σ) := by
  intro p e R s m args below meth cd Q H locs ls C F hl' hW hS
  subst hji
  exact w_get C hW hs hk hf hl hd (kk (hW.2.2.2.i _ (by rw [hs]; simp)) p e R s m args below meth cd Q H locs ls C F hl' hW hS)
theorem g_getz {k ci j idx : Nat} {ji : Int} {q : String × String × String × Bool} (hs : shp k = (0, ci)) (hf : Fld ci j 2 .boolean q) (hl : LinkF M.1.cls idx q.1 q.2.1 q.2.2.1) (hd : decode M.2.1 pc = .ok (.getfield idx, 3)) (hji : ((j : Nat) : Int) = ji := by rfl) (hk : k < n := by decide)
    (kk : R32 (σ k ji) → G Γ M d B post u (pc + 3) L (vI (σ k ji) :: st) (n, ρ, σ)) : G Γ M d B post u pc L (vR Γ k :: st) (n, ρ, σ) := by
  intro p e R s m args below meth cd Q H locs ls C F hl' hW hS
  subst hji
  exact w_get C hW hs hk hf hl hd (kk (hW.2.2.2.i _ (by rw [hs]; simp)) p e R s m args below meth cd Q H locs ls C F hl' hW hS)
theorem fval_ref {k j v : Nat} (h : ρ k j = v + 1) : fval Γ (n, ρ, σ) k j 1 = vR Γ v := by
  unfold fval rfv vR
  simp [h, va_rf]
theorem g_getr {k ci j idx v : Nat} {ty : FieldType} {q : String × String × String × Bool} (hs : shp k = (0, ci)) (hf : Fld ci j 1 ty q) (hl : LinkF M.1.cls idx q.1 q.2.1 q.2.2.1) (hd : decode M.2.1 pc = .ok (.getfield idx, 3)) (hv : ρ k j = v + 1) (hk : k < n := by decide)
    (kk : G Γ M d B post u (pc + 3) L (vR Γ v :: st) (n, ρ, σ)) : G Γ M d B post u pc L (vR Γ k :: st) (n, ρ, σ) := by
  intro p e R s m args below meth cd Q H locs ls C F hl' hW hS
  refine w_get C hW hs hk hf hl hd ?_
  rw [fval_ref hv]
  exact kk p e R s m args below meth cd Q H locs ls C F hl' hW hS
/-- any field written -/
theorem w_put {l : Launch} {k ci j tag idx : Nat} {ty : FieldType} {q : String × String × String × Bool} {v : Value} {τ' : St} (C : Cx Γ M d B p R s m args meth cd) (hW : Wd Γ τ H) (hS : ∀ q ∈ locs, stA Γ q.base) (hs : shp k = (0, ci)) (hk : k < τ.1) (hf : Fld ci j tag ty q) (hl : LinkF M.1.cls idx q.1 q.2.1 q.2.2.1) (hfin : q.2.2.2 = false ∨ (M.1.name = "<init>" ∧ q.1 = M.1.cls ∧ Cond.fieldLink M.1.cls idx q.1 q.2.1 q.2.2.1 ∈ tblG))
    (hn : narrow ty v = v) (hfit : fits ty v = true) (hd : decode M.2.1 pc = .ok (.putfield idx, 3)) (h1 : τ'.1 = τ.1) (h2 : fval Γ τ' k j tag = v) (h3 : ∀ i u, i ≠ j → fval Γ τ' k i u = fval Γ τ k i u) (h4 : ∀ k', k' ≠ k → wE Γ τ' k' = wE Γ τ k') (h5 : Nz τ'.2.2)
    (kk : ∀ (H' : Heap) (locs' : List Loc), Wd Γ τ' H' → (∀ q ∈ locs', stA Γ q.base) → W p l e R s m args below meth cd H' locs' cells slots Q (F0 m (pc + 3) ls st)) : W p l e R s m args below meth cd H locs cells slots Q (F0 m pc ls (v :: vR Γ k :: st)) := by
  obtain ⟨hx, hb, hml, hown, hts, hKS, hname, -⟩ := C
  obtain ⟨Cn, T, N, hc, hj, ht, rfl, hp⟩ := hf
  obtain ⟨hin, ⟨ty0, hty⟩, hnm⟩ := cls_ok ci Cn T N hc
  have hP := hW.2.1 k hk
  rw [wE_obj hs] at hP
  have hap := va_apart (own := M.1.cls) hts hin ty0 hty hnm hKS.1 hc
  obtain ⟨r, r1, cell, q1, q2, q3, q4⟩ := hP
  have hr : r = (Cn, T, N) := Option.some.inj (r1.symm.trans hc)
  subst hr
  obtain ⟨hSl, hfc, kC, hkC, hkind⟩ := hKS.1.1 ci _ hc
  obtain ⟨cf, kf, fi, f, hi, hsl⟩ := hSl j hj
  have hlay := hts _ (hin _ (u_in_lay hj))
  have hst := (u_facts hfc hkC (u_lays hts hin hj) hi).1
  have done : ∀ H' : Heap, H'[kB Γ + k]? = some (cell.setSlot f.slot v) → H'.size = H.size → (∀ q, q ≠ kB Γ + k → H'[q]? = H[q]?) → W p l e R s m args below meth cd H' (locs ++ [⟨kB Γ + k, f.slot⟩]) cells slots Q (F0 m (pc + 3) ls st) := by
    intro H' e1 e2 e3
    rw [hsl] at e1
    refine kk H' _ (wd_put hW ?_ e3 e2 h1 h4 h5) (fun q hq => ?_)
    · rw [wE_obj hs]
      have hset : (fsOf Γ τ k (fk ci)).set j v = fsOf Γ τ' k (fk ci) := fsOf_set ht h2 h3
      rw [← hset]
      have hlen : j < (fsOf Γ τ k (fk ci)).length := (List.getElem?_eq_some_iff.mp (fsOf_get (Γ := Γ) (τ := τ) (k := k) ht)).1
      exact ⟨_, hc, t_OB.to (V := updV (vp_V (fsOf Γ τ k (fk ci))) j v) ⟨_, e1, q2, q3, t_set q4 hap hj v⟩ (fun i _ => vp_updV_set hlen v i)⟩
    · rcases List.mem_append.mp hq with h | h
      · exact hS q h
      · rw [List.mem_singleton.mp h]; exact Nat.le_add_right _ _
  have hslot : f.slot < cell.slots.size := by rw [hsl]; exact k2_hasslot (q4 j hj)
  unfold u_lay at hlay
  by_cases hq : (T j).2.2.2 = true
  · rw [if_pos hq] at hlay
    rcases hfin with hfin | ⟨hini, hdecl, hfl⟩
    · rw [hq] at hfin; cases hfin
    have hcf : m.cls = cf := by
      obtain ⟨_, _, c', _, _, _, -, -, hf', -, -, -, hown2, -⟩ := Cond.laysFinal_spec hlay
      have e1 : c' = cf := by have := hi.symm.trans hf'; simp at this; exact this.1.symm
      rw [hdecl] at hown2
      rw [← e1]; exact Option.some.inj (hown.symm.trans hown2)
    have h6 := u_fits hfc hkC hkind (Or.inr hlay) hi hp hn hfit
    exact W.putFinK hx hb hown (hts _ hfl) hi hst hcf (hname.trans hini) (by rw [q2]; exact h6) q1 q3 hslot rfl rfl hd done
  · rw [if_neg hq] at hlay
    have h6 := u_store hfc hkC hkind hlay hi hp hn hfit
    rcases hl with hl | ⟨host, hl⟩
    · exact W.putK hx hb (f := f) ⟨hown, hts _ hl, ⟨_, _, _, hi⟩, hst⟩ (by rw [q2]; exact h6) q1 q3 hslot rfl rfl hd done
    · exact va_WputK hx hb (f := f) hown (link_nest hKS hl) hi hst (by rw [q2]; exact h6) q1 q3 hslot rfl rfl hd done
theorem fval_up_self {k j tag : Nat} {x : Int} (ht : tag ≠ 1) : fval Γ (n, ρ, up σ k j x) k j tag = vI x := by
  unfold fval; simp [ht, up]
theorem fval_up_slot {k j : Nat} {x : Int} (i t : Nat) (h : i ≠ j) : fval Γ (n, ρ, up σ k j x) k i t = fval Γ (n, ρ, σ) k i t := by
  have h2 : ¬ ((i : Int) = (j : Int)) := by omega
  unfold fval; simp [up, h2]
theorem g_put {k ci j idx : Nat} {ji x : Int} {q : String × String × String × Bool} (hs : shp k = (0, ci)) (hf : Fld ci j 0 .int q) (hl : LinkF M.1.cls idx q.1 q.2.1 q.2.2.1) (hd : decode M.2.1 pc = .ok (.putfield idx, 3)) (hr : R32 x) (hfin : q.2.2.2 = false := by rfl) (hji : ((j : Nat) : Int) = ji := by rfl) (hk : k < n := by decide)
    (kk : G Γ M d B post u (pc + 3) L st (n, ρ, up σ k ji x)) : G Γ M d B post u pc L (vI x :: vR Γ k :: st) (n, ρ, σ) := by
  intro p e R s m args below meth cd Q H locs ls C F hl' hW hS
  subst hji
  exact w_put C hW hS hs hk hf hl (Or.inl hfin) rfl rfl hd (τ' := (n, ρ, up σ k j x)) rfl (fval_up_self (by decide)) (fun i u h => fval_up_slot i u h) (fun k' h => wE_up_ne k' h) (nz_up hW.2.2.2 (by rw [hs]; simpa using hr)) (fun H' locs' hW' hS' => kk p e R s m args below meth cd Q H' locs' ls C F hl' hW' hS')
theorem g_putz {k ci j idx : Nat} {ji x : Int} {q : String × String × String × Bool} (hs : shp k = (0, ci)) (hf : Fld ci j 2 .boolean q) (hl : LinkF M.1.cls idx q.1 q.2.1 q.2.2.1) (hd : decode M.2.1 pc = .ok (.putfield idx, 3)) (hr : x = 0 ∨ x = 1) (hfin : q.2.2.2 = false := by rfl) (hji : ((j : Nat) : Int) = ji := by rfl) (hk : k < n := by decide)
    (kk : G Γ M d B post u (pc + 3) L st (n, ρ, up σ k ji x)) : G Γ M d B post u pc L (vI x :: vR Γ k :: st) (n, ρ, σ) := by
  intro p e R s m args below meth cd Q H locs ls C F hl' hW hS
  subst hji
  have hr2 : R32 x := by omega
  exact w_put C hW hS hs hk hf hl (Or.inl hfin) (z_narB hr) (by rcases hr with rfl | rfl <;> decide) hd (τ' := (n, ρ, up σ k j x)) rfl (fval_up_self (by decide)) (fun i u h => fval_up_slot i u h) (fun k' h => wE_up_ne k' h) (nz_up hW.2.2.2 (by rw [hs]; simpa using hr2)) (fun H' locs' hW' hS' => kk p e R s m args below meth cd Q H' locs' ls C F hl' hW' hS')
theorem fval_upr_self {k j v : Nat} : fval Γ (n, upr ρ k j (v + 1), σ) k j 1 = vR Γ v := by
  unfold fval rfv vR; simp [upr, va_rf]
theorem fval_upr_slot {k j v : Nat} (i t : Nat) (h : i ≠ j) : fval Γ (n, upr ρ k j v, σ) k i t = fval Γ (n, ρ, σ) k i t := by
  unfold fval; simp [upr, h]
theorem ref_fit {ty : FieldType} (h : (∃ c, ty = .object c) ∨ ∃ c, ty = .array c) (a : Nat) : narrow ty (.ref a) = .ref a ∧ fits ty (.ref a) = true := by
  rcases h with ⟨c, rfl⟩ | ⟨c, rfl⟩ <;> exact ⟨rfl, rfl⟩
theorem g_putr {k ci j idx v : Nat} {ty : FieldType} {q : String × String × String × Bool} (hs : shp k = (0, ci)) (hf : Fld ci j 1 ty q) (hl : LinkF M.1.cls idx q.1 q.2.1 q.2.2.1) (hd : decode M.2.1 pc = .ok (.putfield idx, 3)) (hty : (∃ c, ty = .object c) ∨ ∃ c, ty = .array c) (hfin : q.2.2.2 = false ∨ (M.1.name = "<init>" ∧ q.1 = M.1.cls ∧ Cond.fieldLink M.1.cls idx q.1 q.2.1 q.2.2.1 ∈ tblG)) (hk : k < n := by decide)
    (kk : G Γ M d B post u (pc + 3) L st (n, upr ρ k j (v + 1), σ)) : G Γ M d B post u pc L (vR Γ v :: vR Γ k :: st) (n, ρ, σ) := by
  intro p e R s m args below meth cd Q H locs ls C F hl' hW hS
  exact w_put C hW hS hs hk hf hl hfin (ref_fit hty _).1 (ref_fit hty _).2 hd (τ' := (n, upr ρ k j (v + 1), σ)) rfl fval_upr_self (fun i u h => fval_upr_slot i u h) (fun k' h => wE_upr_ne k' h) hW.2.2.2 (fun H' locs' hW' hS' => kk p e R s m args below meth cd Q H' locs' ls C F hl' hW' hS')
/-! arrays -/
theorem arr_of (hKS : KS Γ s) {t : Nat} (h1 : 1 ≤ t) (h2 : t ≤ 6) (N : Nat) (z : Nat → Value) : s.isArrayOf (arrV (kA Γ t) N z) (aty t) := (hKS.2.1 t h1 h2).1 N z
theorem w_cell (hW : Wd Γ τ H) {k : Nat} (hk : k < τ.1) {c : ClassId × vp_A} (he : wE Γ τ k = .inl c) : H[kB Γ + k]? = some (vp_cell c.1 c.2) := by
  have := hW.2.1 k hk
  rw [he] at this
  exact this
theorem w_in {i : Int} {N : Nat} {cA : ClassId} {f : Nat → Value} (h0 : 0 ≤ i) (h1 : i < N) (hr : R32 i) : ¬ (Int32.ofInt i < 0 ∨ (arrV cA N f).slots.size ≤ (Int32.ofInt i).toNatClampNeg) := by
  rw [arrV_size]; exact z_in h0 h1 hr
theorem w_rd {i : Int} {N : Nat} {cA : ClassId} {f : Int → Value} (h0 : 0 ≤ i) (h1 : i < N) (hr : R32 i) : (arrV cA N (fun j => f (j : Int))).slots[(Int32.ofInt i).toNatClampNeg]? = some (f i) := by
  rw [arrV_read _ _ (by rw [z_clamp h0 hr]; omega), z_clamp h0 hr, Int.toNat_of_nonneg h0]
theorem shp_small {k t N : Nat} (h : shp k = (t, N)) : N < 1000 := by
  have key : ∀ q ∈ shL, q.2 < 1000 := by decide
  unfold shp at h
  rw [List.getD_eq_getElem?_getD] at h
  cases hq : shL[k]? with
  | none => rw [hq] at h; cases h; decide
  | some q =>
    rw [hq] at h
    have := key q (List.mem_of_getElem? hq)
    simp at h; rw [h] at this; exact this
theorem g_iald {k N : Nat} {i : Int} (hs : shp k = (1, N)) (h0 : 0 ≤ i) (h1 : i < N) (hd : decode M.2.1 pc = .ok (.iaload, 1)) (hk : k < n := by decide)
    (kk : R32 (σ k i) → G Γ M d B post u (pc + 1) L (vI (σ k i) :: st) (n, ρ, σ)) : G Γ M d B post u pc L (vI i :: vR Γ k :: st) (n, ρ, σ) := by
  intro p e R s m args below meth cd Q H locs ls C F hl hW hS
  have hN := shp_small hs
  have hr : R32 i := by omega
  exact W.iald (v := vI (σ k i)) C.1 C.2.1 (w_cell hW hk (wE_int hs (Or.inl rfl))) (arr_of C.2.2.2.2.2.1 (t := 1) (by decide) (by decide) N _) (fun q => by cases q) (w_in h0 h1 hr) (w_rd (f := fun j => vI (σ k j)) h0 h1 hr) rfl rfl hd (kk (hW.2.2.2.i _ (by rw [hs]; simp)) p e R s m args below meth cd Q H locs ls C F hl hW hS)
theorem g_bald {k N : Nat} {i : Int} (hs : shp k = (4, N)) (h0 : 0 ≤ i) (h1 : i < N) (hd : decode M.2.1 pc = .ok (.baload, 1)) (hk : k < n := by decide)
    (kk : R32 (σ k i) → G Γ M d B post u (pc + 1) L (vI (σ k i) :: st) (n, ρ, σ)) : G Γ M d B post u pc L (vI i :: vR Γ k :: st) (n, ρ, σ) := by
  intro p e R s m args below meth cd Q H locs ls C F hl hW hS
  have hN := shp_small hs
  have hr : R32 i := by omega
  exact W.bald (v := vI (σ k i)) C.1 C.2.1 (w_cell hW hk (wE_int hs (by simp))) (arr_of C.2.2.2.2.2.1 (t := 4) (by decide) (by decide) N _) (fun q => by cases q) (w_in h0 h1 hr) (w_rd (f := fun j => vI (σ k j)) h0 h1 hr) rfl rfl hd (kk (hW.2.2.2.i _ (by rw [hs]; simp)) p e R s m args below meth cd Q H locs ls C F hl hW hS)
theorem g_zald {k N : Nat} {i : Int} (hs : shp k = (3, N)) (h0 : 0 ≤ i) (h1 : i < N) (hd : decode M.2.1 pc = .ok (.baload, 1)) (hk : k < n := by decide)
    (kk : R32 (σ k i) → G Γ M d B post u (pc + 1) L (vI (σ k i) :: st) (n, ρ, σ)) : G Γ M d B post u pc L (vI i :: vR Γ k :: st) (n, ρ, σ) := by
  intro p e R s m args below meth cd Q H locs ls C F hl hW hS
  have hN := shp_small hs
  have hr : R32 i := by omega
  exact W.zald (v := vI (σ k i)) C.1 C.2.1 (w_cell hW hk (wE_int hs (by simp))) (arr_of C.2.2.2.2.2.1 (t := 3) (by decide) (by decide) N _) (fun q => by cases q) (w_in h0 h1 hr) (w_rd (f := fun j => vI (σ k j)) h0 h1 hr) rfl rfl hd (kk (hW.2.2.2.i _ (by rw [hs]; simp)) p e R s m args below meth cd Q H locs ls C F hl hW hS)
theorem g_lald {k N : Nat} {i : Int} (hs : shp k = (2, N)) (h0 : 0 ≤ i) (h1 : i < N) (hd : decode M.2.1 pc = .ok (.laload, 1)) (hk : k < n := by decide)
    (kk : R64 (σ k i) → G Γ M d B post u (pc + 1) L (vL (σ k i) :: st) (n, ρ, σ)) : G Γ M d B post u pc L (vI i :: vR Γ k :: st) (n, ρ, σ) := by
  intro p e R s m args below meth cd Q H locs ls C F hl hW hS
  have hN := shp_small hs
  have hr : R32 i := by omega
  exact W.lald (v := vL (σ k i)) C.1 C.2.1 (w_cell hW hk (wE_long hs)) (arr_of C.2.2.2.2.2.1 (t := 2) (by decide) (by decide) N _) (fun q => by cases q) (w_in h0 h1 hr) (w_rd (f := fun j => vL (σ k j)) h0 h1 hr) rfl rfl hd (kk (hW.2.2.2.l _ (by rw [hs])) p e R s m args below meth cd Q H locs ls C F hl hW hS)
theorem g_aald {k t N v : Nat} {i : Int} (hs : shp k = (t, N)) (ht : t = 5 ∨ t = 6) (h0 : 0 ≤ i) (h1 : i < N) (hv : ρ k i.toNat = v + 1) (hd : decode M.2.1 pc = .ok (.aaload, 1)) (hk : k < n := by decide)
    (kk : G Γ M d B post u (pc + 1) L (vR Γ v :: st) (n, ρ, σ)) : G Γ M d B post u pc L (vI i :: vR Γ k :: st) (n, ρ, σ) := by
  intro p e R s m args below meth cd Q H locs ls C F hl hW hS
  have hN := shp_small hs
  have hr : R32 i := by omega
  have hrd : (arrV (kA Γ t) N (fun j => va_rf (rfv Γ (ρ k j)))).slots[(Int32.ofInt i).toNatClampNeg]? = some (vR Γ v) := by
    rw [arrV_read _ _ (by rw [z_clamp h0 hr]; omega), z_clamp h0 hr, hv]
    simp [rfv, va_rf, vR]
  exact W.aald (v := vR Γ v) (ty := aty t) C.1 C.2.1 (w_cell hW hk (wE_grid hs ht)) (arr_of C.2.2.2.2.2.1 (t := t) (by omega) (by omega) N _) (by rcases ht with rfl | rfl <;> rfl) (fun q => by cases q) (w_in h0 h1 hr) hrd rfl rfl hd (kk p e R s m args below meth cd Q H locs ls C F hl hW hS)
theorem g_alen {k t N : Nat} (hs : shp k = (t, N)) (ht : 1 ≤ t ∧ t ≤ 6) (hd : decode M.2.1 pc = .ok (.arraylength, 1)) (hk : k < n := by decide)
    (kk : G Γ M d B post u (pc + 1) L (vI N :: st) (n, ρ, σ)) : G Γ M d B post u pc L (vR Γ k :: st) (n, ρ, σ) := by
  intro p e R s m args below meth cd Q H locs ls C F hl hW hS
  have K := kk p e R s m args below meth cd Q H locs ls C F hl hW hS
  have hKS := C.2.2.2.2.2.1
  have hc : ∃ f : Nat → Value, H[kB Γ + k]? = some (arrV (kA Γ t) N f) := by
    rcases (show t = 1 ∨ t = 2 ∨ t = 3 ∨ t = 4 ∨ t = 5 ∨ t = 6 by omega) with rfl | rfl | rfl | rfl | rfl | rfl
    · exact ⟨fun j => .int (Int32.ofInt (σ k (j : Int))), w_cell hW hk (wE_int hs (by simp))⟩
    · exact ⟨fun j => .long (Int64.ofInt (σ k (j : Int))), w_cell hW hk (wE_long hs)⟩
    · exact ⟨fun j => .int (Int32.ofInt (σ k (j : Int))), w_cell hW hk (wE_int hs (by simp))⟩
    · exact ⟨fun j => .int (Int32.ofInt (σ k (j : Int))), w_cell hW hk (wE_int hs (by simp))⟩
    · exact ⟨fun j => va_rf (rfv Γ (ρ k j)), w_cell hW hk (wE_grid hs (by simp))⟩
    · exact ⟨fun j => va_rf (rfv Γ (ρ k j)), w_cell hW hk (wE_grid hs (by simp))⟩
  obtain ⟨f, hc⟩ := hc
  exact W.alen (n := Int32.ofInt (N : Int)) C.1 C.2.1 hc (arr_of hKS ht.1 ht.2 N f) (by rw [arrV_size]; rfl) rfl rfl hd K
theorem w_upd {i x : Int} {k : Nat} (h0 : 0 ≤ i) (hr : R32 i) : (fun j : Nat => Int32.ofInt (up σ k i x k (j : Int))) = upd (fun j : Nat => Int32.ofInt (σ k j)) (Int32.ofInt i).toNatClampNeg (Int32.ofInt x) := by
  funext j
  unfold upd up
  rw [z_clamp h0 hr]
  by_cases e : j = i.toNat
  · have : (j : Int) = i := by omega
    simp [e, Int.toNat_of_nonneg h0]
  · have : ¬ (j : Int) = i := by omega
    simp [e, this]
theorem st_arr {cA : ClassId} {N k : Nat} {i x : Int} (h0 : 0 ≤ i) (hr : R32 i) : (arrV cA N (fun j : Nat => .int (Int32.ofInt (σ k j)))).setSlot (Int32.ofInt i).toNatClampNeg (.int (Int32.ofInt x)) = arrV cA N (fun j : Nat => .int (Int32.ofInt (up σ k i x k (j : Int)))) := by
  rw [arrV_store]
  refine congrArg (arrV cA N) ?_
  have h := w_upd (σ := σ) (x := x) (k := k) h0 hr
  funext j
  have hj := congrFun h j
  rw [hj]
  unfold updV upd
  by_cases e : j = (Int32.ofInt i).toNatClampNeg <;> simp [e]
theorem put_locs {k : Nat} {b : Nat} (hS : ∀ q ∈ locs, stA Γ q.base) : ∀ q ∈ locs ++ [(⟨kB Γ + k, b⟩ : Loc)], stA Γ q.base := by
  intro q hq
  rcases List.mem_append.mp hq with h | h
  · exact hS q h
  · rw [List.mem_singleton.mp h]; exact Nat.le_add_right _ _
theorem wd_arr {k t N : Nat} {i x : Int} {H' : Heap} (hW : Wd Γ (n, ρ, σ) H) (hk : k < n) (hs : shp k = (t, N)) (ht : t = 1 ∨ t = 3 ∨ t = 4) (h0 : 0 ≤ i) (hr : R32 i) (hx : R32 x) (e1 : H'[kB Γ + k]? = some ((arrV (kA Γ t) N (fun j : Nat => .int (Int32.ofInt (σ k j)))).setSlot (Int32.ofInt i).toNatClampNeg (.int (Int32.ofInt x)))) (z : H'.size = H.size) (oq : ∀ q, q ≠ kB Γ + k → H'[q]? = H[q]?) : Wd Γ (n, ρ, up σ k i x) H' := by
  refine wd_put hW ?_ oq z rfl (fun k' h => wE_up_ne k' h) (nz_up hW.2.2.2 ?_)
  · rw [wE_int hs ht]
    show H'[_]? = some (vp_cell _ _)
    rw [vp_cell_i, e1, st_arr h0 hr]
  · rw [hs]
    rcases ht with rfl | rfl | rfl <;> simpa using hx
theorem g_iast {k N : Nat} {i x : Int} (hs : shp k = (1, N)) (h0 : 0 ≤ i) (h1 : i < N) (hx : R32 x) (hd : decode M.2.1 pc = .ok (.iastore, 1)) (hk : k < n := by decide)
    (kk : G Γ M d B post u (pc + 1) L st (n, ρ, up σ k i x)) : G Γ M d B post u pc L (vI x :: vI i :: vR Γ k :: st) (n, ρ, σ) := by
  intro p e R s m args below meth cd Q H locs ls C F hl hW hS
  have hN := shp_small hs
  have hr : R32 i := by omega
  exact W.iast C.1 C.2.1 (w_cell hW hk (wE_int hs (Or.inl rfl))) (arr_of C.2.2.2.2.2.1 (t := 1) (by decide) (by decide) N _) (fun q => by cases q) (w_in h0 h1 hr) rfl rfl hd (fun H' e1 z oq => kk p e R s m args below meth cd Q H' _ ls C F hl (wd_arr hW hk hs (Or.inl rfl) h0 hr hx e1 z oq) (put_locs hS))
theorem nar_b {x : Int} (h : -128 ≤ x ∧ x < 128) : narrow .byte (.int (Int32.ofInt x)) = .int (Int32.ofInt x) := by
  have key : ∀ k : Fin 256, narrow .byte (.int (Int32.ofInt ((k : Nat) - 128 : Int))) = .int (Int32.ofInt ((k : Nat) - 128 : Int)) := by decide +kernel
  have := key ⟨(x + 128).toNat, by omega⟩
  have e : (((x + 128).toNat : Nat) : Int) - 128 = x := by omega
  dsimp only at this
  rw [e] at this
  exact this
theorem g_bast {k N : Nat} {i x : Int} (hs : shp k = (4, N)) (h0 : 0 ≤ i) (h1 : i < N) (hx : -128 ≤ x ∧ x < 128) (hd : decode M.2.1 pc = .ok (.bastore, 1)) (hk : k < n := by decide)
    (kk : G Γ M d B post u (pc + 1) L st (n, ρ, up σ k i x)) : G Γ M d B post u pc L (vI x :: vI i :: vR Γ k :: st) (n, ρ, σ) := by
  intro p e R s m args below meth cd Q H locs ls C F hl hW hS
  have hN := shp_small hs
  have hr : R32 i := by omega
  exact W.bast C.1 C.2.1 (w_cell hW hk (wE_int hs (by simp))) (arr_of C.2.2.2.2.2.1 (t := 4) (by decide) (by decide) N _) (fun q => by cases q) (w_in h0 h1 hr) rfl rfl hd (fun H' e1 z oq => kk p e R s m args below meth cd Q H' _ ls C F hl (wd_arr hW hk hs (by simp) h0 hr (by omega) (by rw [e1, nar_b hx]; rfl) z oq) (put_locs hS))
theorem g_zast {k N : Nat} {i x : Int} (hs : shp k = (3, N)) (h0 : 0 ≤ i) (h1 : i < N) (hx : x = 0 ∨ x = 1) (hd : decode M.2.1 pc = .ok (.bastore, 1)) (hk : k < n := by decide)
    (kk : G Γ M d B post u (pc + 1) L st (n, ρ, up σ k i x)) : G Γ M d B post u pc L (vI x :: vI i :: vR Γ k :: st) (n, ρ, σ) := by
  intro p e R s m args below meth cd Q H locs ls C F hl hW hS
  have hN := shp_small hs
  have hr : R32 i := by omega
  exact W.zast C.1 C.2.1 (w_cell hW hk (wE_int hs (by simp))) (arr_of C.2.2.2.2.2.1 (t := 3) (by decide) (by decide) N _) (fun q => by cases q) (w_in h0 h1 hr) rfl rfl hd (fun H' e1 z oq => kk p e R s m args below meth cd Q H' _ ls C F hl (wd_arr hW hk hs (by simp) h0 hr (by omega) (by rw [e1, z_narB hx]; rfl) z oq) (put_locs hS))
theorem st_arrL {cA : ClassId} {N k : Nat} {i x : Int} (h0 : 0 ≤ i) (hr : R32 i) : (arrV cA N (fun j : Nat => .long (Int64.ofInt (σ k j)))).setSlot (Int32.ofInt i).toNatClampNeg (.long (Int64.ofInt x)) = arrV cA N (fun j : Nat => .long (Int64.ofInt (up σ k i x k (j : Int)))) := by
  rw [arrV_store]
  refine congrArg (arrV cA N) ?_
  funext j
  unfold updV up
  rw [z_clamp h0 hr]
  by_cases e : j = i.toNat
  · have : (j : Int) = i := by omega
    simp [e, Int.toNat_of_nonneg h0]
  · have : ¬ (j : Int) = i := by omega
    simp [e, this]
theorem g_last {k N : Nat} {i x : Int} (hs : shp k = (2, N)) (h0 : 0 ≤ i) (h1 : i < N) (hx : R64 x) (hd : decode M.2.1 pc = .ok (.lastore, 1)) (hk : k < n := by decide)
    (kk : G Γ M d B post u (pc + 1) L st (n, ρ, up σ k i x)) : G Γ M d B post u pc L (vL x :: vI i :: vR Γ k :: st) (n, ρ, σ) := by
  intro p e R s m args below meth cd Q H locs ls C F hl hW hS
  have hN := shp_small hs
  have hr : R32 i := by omega
  refine W.last C.1 C.2.1 (w_cell hW hk (wE_long hs)) (arr_of C.2.2.2.2.2.1 (t := 2) (by decide) (by decide) N _) (fun q => by cases q) (w_in h0 h1 hr) rfl rfl hd (fun H' e1 z oq => kk p e R s m args below meth cd Q H' _ ls C F hl (wd_put hW ?_ oq z rfl (fun k' h => wE_up_ne k' h) (nz_up hW.2.2.2 (by rw [hs]; simpa using hx))) (put_locs hS))
  rw [wE_long hs]
  show H'[_]? = some (vp_cell _ _)
  rw [vp_cell_l, e1]
  exact congrArg some (st_arrL h0 hr)
/-! statics -/
theorem kept_cell (hW : Wd Γ τ H) {a : Nat} {cell : Cell} (h : (kH Γ)[a]? = some cell) : H[a]? = some cell := by
  have hl := (Array.getElem?_eq_some_iff.mp h).1
  rw [hW.2.2.1 a hl]; exact h
theorem w_gets {l : Launch} {Cn nm ds : String} {v : Value} {idx : Nat} (C : Cx Γ M d B p R s m args meth cd) (hW : Wd Γ τ H) (hZ : va_Z Cn nm ds v (stA Γ) s (kH Γ)) (hl : LinkF M.1.cls idx Cn nm ds) (hd : decode M.2.1 pc = .ok (.getstatic idx, 3))
    (kk : W p l e R s m args below meth cd H locs cells slots Q (F0 m (pc + 3) ls (v :: st))) : W p l e R s m args below meth cd H locs cells slots Q (F0 m pc ls st) := by
  obtain ⟨hx, hb, hml, hown, hts, hKS, -⟩ := C
  rcases hl with hl | ⟨host, hl⟩
  · obtain ⟨cf, kf, fi, f, a, cell, h1, h2, h3, h4, h5, h6, h7, h8⟩ := hZ
    exact W.gets hx hb hown (hts _ hl) h1 h2 h3 h4 (kept_cell hW h5) (fun e => by rw [e] at h6; cases h6) h7 rfl hd kk
  · obtain ⟨cf, kf, fi, f, a, cell, h1, h2, h3, h4, h5, h6, h7, h8⟩ := hZ
    exact va_WgetsN hx hb hown (link_nest hKS hl) h1 h2 h3 h4 (kept_cell hW h5) (fun e => by rw [e] at h6; cases h6) h7 rfl hd kk
theorem g_above {idx : Nat} (hl : LinkF M.1.cls idx "AskedIn" "ABOVE" "[I") (hd : decode M.2.1 pc = .ok (.getstatic idx, 3)) (k : G Γ M d B post u (pc + 3) L (.ref (kS Γ 0) :: st) τ) : G Γ M d B post u pc L st τ := by
  intro p e R s m args below meth cd Q H locs ls C F hl' hW hS
  exact w_gets C hW C.2.2.2.2.2.1.2.2.2.1 hl hd (k p e R s m args below meth cd Q H locs ls C F hl' hW hS)
theorem g_bodies {idx : Nat} (hl : LinkF M.1.cls idx "AskedIn$Acts" "BODIES" "[I") (hd : decode M.2.1 pc = .ok (.getstatic idx, 3)) (k : G Γ M d B post u (pc + 3) L (.ref (kS Γ 1) :: st) τ) : G Γ M d B post u pc L st τ := by
  intro p e R s m args below meth cd Q H locs ls C F hl' hW hS
  exact w_gets C hW C.2.2.2.2.2.1.2.2.2.2.2.1 hl hd (k p e R s m args below meth cd Q H locs ls C F hl' hW hS)
theorem w_ti {l : Launch} {t N : Nat} {f : Nat → Value} {i : Int} {v : Value} (C : Cx Γ M d B p R s m args meth cd) (hW : Wd Γ τ H) (hT : va_T .int t N f (stA Γ) s (kH Γ)) (h0 : 0 ≤ i) (h1 : i < N) (hr : R32 i) (hv : f i.toNat = v) (hd : decode M.2.1 pc = .ok (.iaload, 1))
    (kk : W p l e R s m args below meth cd H locs cells slots Q (F0 m (pc + 1) ls (v :: st))) : W p l e R s m args below meth cd H locs cells slots Q (F0 m pc ls (vI i :: .ref t :: st)) := by
  obtain ⟨cell, h2, h3, h4, h5, h6, h7, h8⟩ := hT
  have hz := z_in h0 h1 hr
  refine W.iald (v := v) C.1 C.2.1 (kept_cell hW h2) h3 h4 (fun q => ?_) (by rw [z_clamp h0 hr, h7 _ (by omega), hv]) rfl rfl hd kk
  rcases q with q | q
  · exact hz (Or.inl q)
  · exact hz (Or.inr (by omega))
theorem g_aboveAt {i : Int} (h0 : 0 ≤ i) (h1 : i < 7) (hd : decode M.2.1 pc = .ok (.iaload, 1)) (k : G Γ M d B post u (pc + 1) L (vI (aboveF i.toNat) :: st) τ) : G Γ M d B post u pc L (vI i :: .ref (kS Γ 0) :: st) τ := by
  intro p e R s m args below meth cd Q H locs ls C F hl' hW hS
  exact w_ti C hW C.2.2.2.2.2.1.2.2.2.2.1 h0 h1 (by omega) rfl hd (k p e R s m args below meth cd Q H locs ls C F hl' hW hS)
theorem g_bodiesAt {i : Int} (h0 : 0 ≤ i) (h1 : i < 21) (hd : decode M.2.1 pc = .ok (.iaload, 1)) (k : G Γ M d B post u (pc + 1) L (vI (bodiesF i.toNat) :: st) τ) : G Γ M d B post u pc L (vI i :: .ref (kS Γ 1) :: st) τ := by
  intro p e R s m args below meth cd Q H locs ls C F hl' hW hS
  exact w_ti C hW C.2.2.2.2.2.1.2.2.2.2.2.2.1 h0 h1 (by omega) rfl hd (k p e R s m args below meth cd Q H locs ls C F hl' hW hS)
end GH
