def pI (n : Nat) (ρ : Nat → Nat → Nat) (P : Int → (Nat → Int → Int) → Prop) : Option Value → St → Prop := fun v τ => ∃ r σ', v = some (vI r) ∧ τ = (n, ρ, σ') ∧ P r σ'
def pL (n : Nat) (ρ : Nat → Nat → Nat) (P : Int → (Nat → Int → Int) → Prop) : Option Value → St → Prop := fun v τ => ∃ r σ', v = some (vL r) ∧ τ = (n, ρ, σ') ∧ P r σ'
def pV (n : Nat) (ρ : Nat → Nat → Nat) (P : (Nat → Int → Int) → Prop) : Option Value → St → Prop := fun v τ => ∃ σ', v = none ∧ τ = (n, ρ, σ') ∧ P σ'
def pA (Γ : KT) (n : Nat) (ρ : Nat → Nat → Nat) (P : Nat → (Nat → Int → Int) → Prop) : Option Value → St → Prop := fun v τ => ∃ r σ', v = some (vR Γ r) ∧ τ = (n, ρ, σ') ∧ P r σ'
/-- any end: another row of references (the text's row of tokens) -/
def pVR (n : Nat) (P : (Nat → Nat → Nat) → (Nat → Int → Int) → Prop) : Option Value → St → Prop := fun v τ => ∃ ρ' σ', v = none ∧ τ = (n, ρ', σ') ∧ P ρ' σ'
theorem tblG_goods {l : List Cond} (h : ∀ w ∈ l, w ∈ tblG) : GoodIn tblG l := fun w hw => ⟨h w hw, good_of_word (List.mem_filter.mp (h w hw)).2⟩
theorem pre_blind {Γ : KT} {args : List Value} {τ : St} : FrameBlind (PreG Γ args τ) := fun _ _ _ _ q => ⟨q.1, q.2.1.same rfl, q.2.2⟩
section GC
variable {Γ : KT} {M : MI} {d : Nat} {B : Nat × Nat} {post : Option Value → St → Prop} {u : Nat × Nat} {pc : Nat} {L : List (Option Value)} {st : List Value} {n : Nat} {ρ : Nat → Nat → Nat} {σ : Nat → Int → Int}
variable {p : Program} {e : Env} {R : Room} {s : State} {m : MethodId} {args : Array Value} {below : List Frame} {meth : Method} {cd : Code} {Q : State → Prop} {H : Heap} {locs : List Loc} {ls : Array Slot} {τ : St} {cells slots : Nat}
theorem w_run {l : Launch} {mc ms : Nat} {st0 rest : List Value} {post' : Option Value → St → Prop} {a : Array Value} (hr : va_Run p l e R s m args below meth cd H locs cells slots mc ms (F0 m pc ls st0) rest (PostG Γ post' a) (stA Γ)) (hS : ∀ q ∈ locs, stA Γ q.base)
    (kk : ∀ (v : Option Value) (τ' : St) (H' : Heap) (locs' : List Loc), post' v τ' → Wd Γ τ' H' → (∀ q ∈ locs', stA Γ q.base) → W p l e R s m args below meth cd H' locs' (cells + mc) (slots + ms) Q (F0 m (pc + 3) ls (v.toList ++ rest))) : W p l e R s m args below meth cd H locs cells slots Q (F0 m pc ls st0) := by
  intro T hT X
  obtain ⟨v, st₀, t, T', L, h0, X', hL, e1, e2, ⟨v', τ', hv, hp, hW⟩, st⟩ := hr T hT X
  cases hv
  obtain ⟨t2, a1, b1⟩ := kk v τ' T'.heap (locs ++ L) hp (by rw [e1]; exact hW) (fun q hq => (List.mem_append.mp hq).elim (hS q) (hL q)) T' rfl X'
  exact ⟨t2, st t2 a1, b1⟩
/-- the room of a callee fits -/
theorem room_fit {d' : Nat} {B' : Nat × Nat} {mL : Nat} (C : Cx Γ M d B p R s m args meth cd) (hd : d' + 1 ≤ d) (hm : mL ≤ 45) : (rmD d' B').frames + 1 ≤ R.frames ∧ 8 + (mL + 11) + (rmD d' B').locals ≤ R.locals := by
  obtain ⟨-, -, -, -, -, -, -, h1, h2, -⟩ := C
  show d' + 1 ≤ R.frames ∧ 8 + (mL + 11) + 64 * d' ≤ R.locals
  omega
abbrev stW (l : List Value) : Nat := (l.map fun v => v.category).sum
theorem g_callV {M' : MI} {d' : Nat} {B' : Nat × Nat} {as rest : List Value} {post' : Option Value → St → Prop} {np k ci idx : Nat} {T : u_T} {N : Nat} (hc : Ct Γ M' d' B' (vR Γ k :: as) τ post') (hq : Cal M' np) (hv : Cond.instanceMethod M'.1 ∈ tblG) (hsl : Cond.selects M'.1.cls M'.1 M'.1 ∈ tblG) (hk : k < τ.1) (hs : shp k = (0, ci)) (hcl : vwCl[ci]? = some (M'.1.cls, T, N)) (hl : LinkM M.1.cls idx M'.1)
    (hn : as.length = np) (hd' : d' + 1 ≤ d) (hm : M'.2.2.1 ≤ 45) (hB : u.1 + B'.1 ≤ B.1 ∧ u.2 + B'.2 ≤ B.2) (hst : stW rest ≤ 8) (hd : decode M.2.1 pc = .ok (.invokevirtual idx, 3)) (hstk : st = as.reverse ++ vR Γ k :: rest)
    (kk : ∀ v τ', post' v τ' → G Γ M d B post (u.1 + B'.1, u.2 + B'.2) (pc + 3) L (v.toList ++ rest) τ') : G Γ M d B post u pc L st τ := by
  intro p e R s m args below meth cd Q H locs ls C F hl' hW hS
  subst hstk
  obtain ⟨hx, hb, hml, hown, hts, hKS, hname, hR⟩ := id C
  obtain ⟨q1, q2, q3, q4⟩ := hq
  have hP := hW.2.1 k hk
  rw [wE_obj hs] at hP
  have hP1 : va_P (kD Γ) vwCl [(kB Γ + k, .inr (ci, fsOf Γ τ k (fk ci)))] H := by
    intro i q hi
    match i, hi with
    | 0, hi => cases hi; exact hP
    | i + 1, hi => simp at hi
  have hrecv := va_recv hKS.1 hP1 (q0 := 0) hcl rfl
  have hrm := room_fit (mL := M'.2.2.1) (B' := B') C hd' hm
  have hpre : PreV s H M'.1.cls (kB Γ + k) (PreG Γ (vR Γ k :: as) τ) as := ⟨pre_blind, hrecv, fun U hU hWm => ⟨rfl, hKS.warm hWm, by rw [hU]; exact hW⟩⟩
  have hF : u.1 + B'.1 ≤ R.cells ∧ u.2 + B'.2 ≤ R.slots := by omega
  have fin := fun (v : Option Value) (τ' : St) (H' : Heap) (locs' : List Loc) (a : post' v τ') (b : Wd Γ τ' H') (c : ∀ q ∈ locs', stA Γ q.base) => kk v τ' a p e R s m args below meth cd Q H' locs' ls C F hl' b c
  rcases hl with hl | ⟨host, hl⟩
  · refine w_run (va_runV (As := as) (rest := rest) ⟨hx, hb, hml, hown, hts⟩ hc (cwV (ws' := tblG) np hts (tblG_goods ?_) rfl rfl rfl ⟨rfl, q3.1, q3.2, q4⟩ hrm) hpre rfl hn hl'.1 rfl (lv_room hst) hd hF) hS fin
    intro w hw
    rcases List.mem_append.mp hw with h | h
    · simp only [List.mem_cons, List.not_mem_nil, or_false] at h
      rcases h with rfl | rfl | rfl | rfl
      · exact hl
      · exact hv
      · exact hsl
      · exact q1
    · exact (tblG_good q2 w h).1
  · exact w_run (va_runVN (As := as) (rest := rest) ⟨hx, hb, hml, hown, hts⟩ hc ⟨va_cnB (ws' := tblG) np hts (tblG_good q2) rfl rfl rfl (hKS.2.2.1 _ hl) (hts _ q1) ⟨q3.1, q3.2, q4⟩ hrm, hts _ hv, hts _ hsl⟩ hpre rfl hn hl'.1 rfl (lv_room hst) hd hF) hS fin
theorem g_callS {M' : MI} {d' : Nat} {B' : Nat × Nat} {as rest : List Value} {post' : Option Value → St → Prop} {np idx : Nat} (hc : Ct Γ M' d' B' as τ post') (hq : Cal M' np) (hv : Cond.static M'.1 ∈ tblG) (hl : LinkM M.1.cls idx M'.1)
    (hn : as.length = np) (hd' : d' + 1 ≤ d) (hm : M'.2.2.1 ≤ 45) (hB : u.1 + B'.1 ≤ B.1 ∧ u.2 + B'.2 ≤ B.2) (hst : stW rest ≤ 8) (hd : decode M.2.1 pc = .ok (.invokestatic idx, 3)) (hstk : st = as.reverse ++ rest)
    (kk : ∀ v τ', post' v τ' → G Γ M d B post (u.1 + B'.1, u.2 + B'.2) (pc + 3) L (v.toList ++ rest) τ') : G Γ M d B post u pc L st τ := by
  intro p e R s m args below meth cd Q H locs ls C F hl' hW hS
  subst hstk
  obtain ⟨hx, hb, hml, hown, hts, hKS, hname, hR⟩ := id C
  obtain ⟨q1, q2, q3, q4⟩ := hq
  have hrm := room_fit (mL := M'.2.2.1) (B' := B') C hd' hm
  have hpre : PreS s H (PreG Γ as τ) as := ⟨pre_blind, fun U hU hWm => ⟨rfl, hKS.warm hWm, by rw [hU]; exact hW⟩⟩
  have hF : u.1 + B'.1 ≤ R.cells ∧ u.2 + B'.2 ≤ R.slots := by omega
  have fin := fun (v : Option Value) (τ' : St) (H' : Heap) (locs' : List Loc) (a : post' v τ') (b : Wd Γ τ' H') (c : ∀ q ∈ locs', stA Γ q.base) => kk v τ' a p e R s m args below meth cd Q H' locs' ls C F hl' b c
  rcases hl with hl | ⟨host, hl⟩
  · refine w_run (va_runS (As := as) (rest := rest) ⟨hx, hb, hml, hown, hts⟩ hc (va_cwS (ws' := tblG) np hts (tblG_goods ?_) rfl rfl rfl ⟨q3.1, q3.2, q4⟩ hrm) hpre rfl hn hl'.1 rfl (lv_room hst) hd hF) hS fin
    intro w hw
    rcases List.mem_append.mp hw with h | h
    · simp only [List.mem_cons, List.not_mem_nil, or_false] at h
      rcases h with rfl | rfl | rfl
      · exact hl
      · exact hv
      · exact q1
    · exact (tblG_good q2 w h).1
  · exact w_run (va_runSN (As := as) (rest := rest) ⟨hx, hb, hml, hown, hts⟩ hc ⟨va_cnB (ws' := tblG) np hts (tblG_good q2) rfl rfl rfl (hKS.2.2.1 _ hl) (hts _ q1) ⟨q3.1, q3.2, q4⟩ hrm, hts _ hv, trivial⟩ hpre rfl hn hl'.1 rfl (lv_room hst) hd hF) hS fin
theorem g_callI {y : MethodName} {bt : ByteArray} {mL : Nat} {d' : Nat} {B' : Nat × Nat} {as rest : List Value} {post' : Option Value → St → Prop} {np k idx : Nat} (hc : Ct Γ (y, bt, mL, none) d' B' (vR Γ k :: as) τ post') (hq : Cal (y, bt, mL, none) np) (hv : Cond.instanceMethod y ∈ tblG) (hy : y.name = "<init>") (hl : LinkM M.1.cls idx y)
    (hn : as.length = np) (hd' : d' + 1 ≤ d) (hm : mL ≤ 45) (hB : u.1 + B'.1 ≤ B.1 ∧ u.2 + B'.2 ≤ B.2) (hst : stW rest ≤ 8) (hd : decode M.2.1 pc = .ok (.invokespecial idx, 3)) (hstk : st = as.reverse ++ vR Γ k :: rest)
    (kk : ∀ v τ', post' v τ' → G Γ M d B post (u.1 + B'.1, u.2 + B'.2) (pc + 3) L (v.toList ++ rest) τ') : G Γ M d B post u pc L st τ := by
  intro p e R s m args below meth cd Q H locs ls C F hl' hW hS
  subst hstk
  obtain ⟨hx, hb, hml, hown, hts, hKS, hname, hR⟩ := id C
  obtain ⟨q1, q2, q3, q4⟩ := hq
  have hrm := room_fit (mL := mL) (B' := B') C hd' hm
  have hpre : PreS s H (PreG Γ (vR Γ k :: as) τ) (.ref (kB Γ + k) :: as) := ⟨pre_blind, fun U hU hWm => ⟨rfl, hKS.warm hWm, by rw [hU]; exact hW⟩⟩
  have hF : u.1 + B'.1 ≤ R.cells ∧ u.2 + B'.2 ≤ R.slots := by omega
  have fin := fun (v : Option Value) (τ' : St) (H' : Heap) (locs' : List Loc) (a : post' v τ') (b : Wd Γ τ' H') (c : ∀ q ∈ locs', stA Γ q.base) => kk v τ' a p e R s m args below meth cd Q H' locs' ls C F hl' b c
  rcases hl with hl | ⟨host, hl⟩
  · exact w_run (va_runI (As := as) (rest := rest) ⟨hx, hb, hml, hown, hts⟩ hc (cwI (ws' := tblG) np hts (tblG_good q2) rfl rfl rfl (hts _ q1) (hts _ hl) (hts _ hv) hy ⟨q3.1, q3.2, q4⟩ hrm) hpre rfl hn hl'.1 rfl (lv_room hst) hd hF) hS fin
  · exact w_run (va_runIN (As := as) (rest := rest) ⟨hx, hb, hml, hown, hts⟩ hc ⟨va_cnB (ws' := tblG) np hts (tblG_good q2) rfl rfl rfl (hKS.2.2.1 _ hl) (hts _ q1) ⟨q3.1, q3.2, q4⟩ hrm, hy, hts _ hv⟩ hpre rfl hn hl'.1 rfl (lv_room hst) hd hF) hS fin
theorem g_cV0I {M' : MI} {d' : Nat} {rest : List Value} {P : Int → (Nat → Int → Int) → Prop} {k ci idx : Nat} {T : u_T} {N : Nat} (hc : Ct Γ M' d' (0, 0) (vR Γ k :: []) (n, ρ, σ) (pI n ρ P)) (hq : Cal M' 0) (hv : Cond.instanceMethod M'.1 ∈ tblG) (hsl : Cond.selects M'.1.cls M'.1 M'.1 ∈ tblG) (hl : LinkM M.1.cls idx M'.1) (hd : decode M.2.1 pc = .ok (.invokevirtual idx, 3)) (hs : shp k = (0, ci) := by rfl) (hcl : vwCl[ci]? = some (M'.1.cls, T, N) := by rfl) (hu : u = B := by rfl) (hk : k < n := by decide) (hd' : d' + 1 ≤ d := by omega) (hm : M'.2.2.1 ≤ 45 := by decide) (hst : stW rest ≤ 8 := by exact Nat.le_of_ble_eq_true rfl)
    (kk : ∀ r σ', P r σ' → G Γ M d B post u (pc + 3) L (vI r :: rest) (n, ρ, σ')) : G Γ M d B post u pc L (vR Γ k :: rest) (n, ρ, σ) :=
  g_callV hc hq hv hsl hk hs hcl hl rfl hd' hm (by subst hu; exact ⟨Nat.le_refl _, Nat.le_refl _⟩) hst hd rfl (fun v τ' h => by obtain ⟨r, σ', rfl, rfl, hP⟩ := h; exact kk r σ' hP)
theorem g_cS0I {M' : MI} {d' : Nat} {rest : List Value} {P : Int → (Nat → Int → Int) → Prop} {idx : Nat} (hc : Ct Γ M' d' (0, 0) [] (n, ρ, σ) (pI n ρ P)) (hq : Cal M' 0) (hv : Cond.static M'.1 ∈ tblG) (hl : LinkM M.1.cls idx M'.1) (hd : decode M.2.1 pc = .ok (.invokestatic idx, 3)) (hu : u = B := by rfl) (hd' : d' + 1 ≤ d := by omega) (hm : M'.2.2.1 ≤ 45 := by decide) (hst : stW rest ≤ 8 := by exact Nat.le_of_ble_eq_true rfl)
    (kk : ∀ r σ', P r σ' → G Γ M d B post u (pc + 3) L (vI r :: rest) (n, ρ, σ')) : G Γ M d B post u pc L (rest) (n, ρ, σ) :=
  g_callS hc hq hv hl rfl hd' hm (by subst hu; exact ⟨Nat.le_refl _, Nat.le_refl _⟩) hst hd rfl (fun v τ' h => by obtain ⟨r, σ', rfl, rfl, hP⟩ := h; exact kk r σ' hP)
theorem g_cV0L {M' : MI} {d' : Nat} {rest : List Value} {P : Int → (Nat → Int → Int) → Prop} {k ci idx : Nat} {T : u_T} {N : Nat} (hc : Ct Γ M' d' (0, 0) (vR Γ k :: []) (n, ρ, σ) (pL n ρ P)) (hq : Cal M' 0) (hv : Cond.instanceMethod M'.1 ∈ tblG) (hsl : Cond.selects M'.1.cls M'.1 M'.1 ∈ tblG) (hl : LinkM M.1.cls idx M'.1) (hd : decode M.2.1 pc = .ok (.invokevirtual idx, 3)) (hs : shp k = (0, ci) := by rfl) (hcl : vwCl[ci]? = some (M'.1.cls, T, N) := by rfl) (hu : u = B := by rfl) (hk : k < n := by decide) (hd' : d' + 1 ≤ d := by omega) (hm : M'.2.2.1 ≤ 45 := by decide) (hst : stW rest ≤ 8 := by exact Nat.le_of_ble_eq_true rfl)
    (kk : ∀ r σ', P r σ' → G Γ M d B post u (pc + 3) L (vL r :: rest) (n, ρ, σ')) : G Γ M d B post u pc L (vR Γ k :: rest) (n, ρ, σ) :=
  g_callV hc hq hv hsl hk hs hcl hl rfl hd' hm (by subst hu; exact ⟨Nat.le_refl _, Nat.le_refl _⟩) hst hd rfl (fun v τ' h => by obtain ⟨r, σ', rfl, rfl, hP⟩ := h; exact kk r σ' hP)
theorem g_cS0L {M' : MI} {d' : Nat} {rest : List Value} {P : Int → (Nat → Int → Int) → Prop} {idx : Nat} (hc : Ct Γ M' d' (0, 0) [] (n, ρ, σ) (pL n ρ P)) (hq : Cal M' 0) (hv : Cond.static M'.1 ∈ tblG) (hl : LinkM M.1.cls idx M'.1) (hd : decode M.2.1 pc = .ok (.invokestatic idx, 3)) (hu : u = B := by rfl) (hd' : d' + 1 ≤ d := by omega) (hm : M'.2.2.1 ≤ 45 := by decide) (hst : stW rest ≤ 8 := by exact Nat.le_of_ble_eq_true rfl)
    (kk : ∀ r σ', P r σ' → G Γ M d B post u (pc + 3) L (vL r :: rest) (n, ρ, σ')) : G Γ M d B post u pc L (rest) (n, ρ, σ) :=
  g_callS hc hq hv hl rfl hd' hm (by subst hu; exact ⟨Nat.le_refl _, Nat.le_refl _⟩) hst hd rfl (fun v τ' h => by obtain ⟨r, σ', rfl, rfl, hP⟩ := h; exact kk r σ' hP)
theorem g_cV0V {M' : MI} {d' : Nat} {rest : List Value} {P : (Nat → Int → Int) → Prop} {k ci idx : Nat} {T : u_T} {N : Nat} (hc : Ct Γ M' d' (0, 0) (vR Γ k :: []) (n, ρ, σ) (pV n ρ P)) (hq : Cal M' 0) (hv : Cond.instanceMethod M'.1 ∈ tblG) (hsl : Cond.selects M'.1.cls M'.1 M'.1 ∈ tblG) (hl : LinkM M.1.cls idx M'.1) (hd : decode M.2.1 pc = .ok (.invokevirtual idx, 3)) (hs : shp k = (0, ci) := by rfl) (hcl : vwCl[ci]? = some (M'.1.cls, T, N) := by rfl) (hu : u = B := by rfl) (hk : k < n := by decide) (hd' : d' + 1 ≤ d := by omega) (hm : M'.2.2.1 ≤ 45 := by decide) (hst : stW rest ≤ 8 := by exact Nat.le_of_ble_eq_true rfl)
    (kk : ∀ σ', P σ' → G Γ M d B post u (pc + 3) L rest (n, ρ, σ')) : G Γ M d B post u pc L (vR Γ k :: rest) (n, ρ, σ) :=
  g_callV hc hq hv hsl hk hs hcl hl rfl hd' hm (by subst hu; exact ⟨Nat.le_refl _, Nat.le_refl _⟩) hst hd rfl (fun v τ' h => by obtain ⟨σ', rfl, rfl, hP⟩ := h; exact kk σ' hP)
theorem g_cS0V {M' : MI} {d' : Nat} {rest : List Value} {P : (Nat → Int → Int) → Prop} {idx : Nat} (hc : Ct Γ M' d' (0, 0) [] (n, ρ, σ) (pV n ρ P)) (hq : Cal M' 0) (hv : Cond.static M'.1 ∈ tblG) (hl : LinkM M.1.cls idx M'.1) (hd : decode M.2.1 pc = .ok (.invokestatic idx, 3)) (hu : u = B := by rfl) (hd' : d' + 1 ≤ d := by omega) (hm : M'.2.2.1 ≤ 45 := by decide) (hst : stW rest ≤ 8 := by exact Nat.le_of_ble_eq_true rfl)
    (kk : ∀ σ', P σ' → G Γ M d B post u (pc + 3) L rest (n, ρ, σ')) : G Γ M d B post u pc L (rest) (n, ρ, σ) :=
  g_callS hc hq hv hl rfl hd' hm (by subst hu; exact ⟨Nat.le_refl _, Nat.le_refl _⟩) hst hd rfl (fun v τ' h => by obtain ⟨σ', rfl, rfl, hP⟩ := h; exact kk σ' hP)
theorem g_cV0R {M' : MI} {d' : Nat} {rest : List Value} {P : (Nat → Nat → Nat) → (Nat → Int → Int) → Prop} {k ci idx : Nat} {T : u_T} {N : Nat} (hc : Ct Γ M' d' (0, 0) (vR Γ k :: []) (n, ρ, σ) (pVR n P)) (hq : Cal M' 0) (hv : Cond.instanceMethod M'.1 ∈ tblG) (hsl : Cond.selects M'.1.cls M'.1 M'.1 ∈ tblG) (hl : LinkM M.1.cls idx M'.1) (hd : decode M.2.1 pc = .ok (.invokevirtual idx, 3)) (hs : shp k = (0, ci) := by rfl) (hcl : vwCl[ci]? = some (M'.1.cls, T, N) := by rfl) (hu : u = B := by rfl) (hk : k < n := by decide) (hd' : d' + 1 ≤ d := by omega) (hm : M'.2.2.1 ≤ 45 := by decide) (hst : stW rest ≤ 8 := by exact Nat.le_of_ble_eq_true rfl)
    (kk : ∀ ρ' σ', P ρ' σ' → G Γ M d B post u (pc + 3) L rest (n, ρ', σ')) : G Γ M d B post u pc L (vR Γ k :: rest) (n, ρ, σ) :=
  g_callV hc hq hv hsl hk hs hcl hl rfl hd' hm (by subst hu; exact ⟨Nat.le_refl _, Nat.le_refl _⟩) hst hd rfl (fun v τ' h => by obtain ⟨ρ', σ', rfl, rfl, hP⟩ := h; exact kk ρ' σ' hP)
theorem g_cV1I {M' : MI} {d' : Nat} {w1 : Value} {rest : List Value} {P : Int → (Nat → Int → Int) → Prop} {k ci idx : Nat} {T : u_T} {N : Nat} (hc : Ct Γ M' d' (0, 0) (vR Γ k :: [w1]) (n, ρ, σ) (pI n ρ P)) (hq : Cal M' 1) (hv : Cond.instanceMethod M'.1 ∈ tblG) (hsl : Cond.selects M'.1.cls M'.1 M'.1 ∈ tblG) (hl : LinkM M.1.cls idx M'.1) (hd : decode M.2.1 pc = .ok (.invokevirtual idx, 3)) (hs : shp k = (0, ci) := by rfl) (hcl : vwCl[ci]? = some (M'.1.cls, T, N) := by rfl) (hu : u = B := by rfl) (hk : k < n := by decide) (hd' : d' + 1 ≤ d := by omega) (hm : M'.2.2.1 ≤ 45 := by decide) (hst : stW rest ≤ 8 := by exact Nat.le_of_ble_eq_true rfl)
    (kk : ∀ r σ', P r σ' → G Γ M d B post u (pc + 3) L (vI r :: rest) (n, ρ, σ')) : G Γ M d B post u pc L (w1 :: vR Γ k :: rest) (n, ρ, σ) :=
  g_callV hc hq hv hsl hk hs hcl hl rfl hd' hm (by subst hu; exact ⟨Nat.le_refl _, Nat.le_refl _⟩) hst hd rfl (fun v τ' h => by obtain ⟨r, σ', rfl, rfl, hP⟩ := h; exact kk r σ' hP)
theorem g_cS1I {M' : MI} {d' : Nat} {w1 : Value} {rest : List Value} {P : Int → (Nat → Int → Int) → Prop} {idx : Nat} (hc : Ct Γ M' d' (0, 0) [w1] (n, ρ, σ) (pI n ρ P)) (hq : Cal M' 1) (hv : Cond.static M'.1 ∈ tblG) (hl : LinkM M.1.cls idx M'.1) (hd : decode M.2.1 pc = .ok (.invokestatic idx, 3)) (hu : u = B := by rfl) (hd' : d' + 1 ≤ d := by omega) (hm : M'.2.2.1 ≤ 45 := by decide) (hst : stW rest ≤ 8 := by exact Nat.le_of_ble_eq_true rfl)
    (kk : ∀ r σ', P r σ' → G Γ M d B post u (pc + 3) L (vI r :: rest) (n, ρ, σ')) : G Γ M d B post u pc L (w1 :: rest) (n, ρ, σ) :=
  g_callS hc hq hv hl rfl hd' hm (by subst hu; exact ⟨Nat.le_refl _, Nat.le_refl _⟩) hst hd rfl (fun v τ' h => by obtain ⟨r, σ', rfl, rfl, hP⟩ := h; exact kk r σ' hP)
theorem g_cV1L {M' : MI} {d' : Nat} {w1 : Value} {rest : List Value} {P : Int → (Nat → Int → Int) → Prop} {k ci idx : Nat} {T : u_T} {N : Nat} (hc : Ct Γ M' d' (0, 0) (vR Γ k :: [w1]) (n, ρ, σ) (pL n ρ P)) (hq : Cal M' 1) (hv : Cond.instanceMethod M'.1 ∈ tblG) (hsl : Cond.selects M'.1.cls M'.1 M'.1 ∈ tblG) (hl : LinkM M.1.cls idx M'.1) (hd : decode M.2.1 pc = .ok (.invokevirtual idx, 3)) (hs : shp k = (0, ci) := by rfl) (hcl : vwCl[ci]? = some (M'.1.cls, T, N) := by rfl) (hu : u = B := by rfl) (hk : k < n := by decide) (hd' : d' + 1 ≤ d := by omega) (hm : M'.2.2.1 ≤ 45 := by decide) (hst : stW rest ≤ 8 := by exact Nat.le_of_ble_eq_true rfl)
    (kk : ∀ r σ', P r σ' → G Γ M d B post u (pc + 3) L (vL r :: rest) (n, ρ, σ')) : G Γ M d B post u pc L (w1 :: vR Γ k :: rest) (n, ρ, σ) :=
  g_callV hc hq hv hsl hk hs hcl hl rfl hd' hm (by subst hu; exact ⟨Nat.le_refl _, Nat.le_refl _⟩) hst hd rfl (fun v τ' h => by obtain ⟨r, σ', rfl, rfl, hP⟩ := h; exact kk r σ' hP)
theorem g_cS1L {M' : MI} {d' : Nat} {w1 : Value} {rest : List Value} {P : Int → (Nat → Int → Int) → Prop} {idx : Nat} (hc : Ct Γ M' d' (0, 0) [w1] (n, ρ, σ) (pL n ρ P)) (hq : Cal M' 1) (hv : Cond.static M'.1 ∈ tblG) (hl : LinkM M.1.cls idx M'.1) (hd : decode M.2.1 pc = .ok (.invokestatic idx, 3)) (hu : u = B := by rfl) (hd' : d' + 1 ≤ d := by omega) (hm : M'.2.2.1 ≤ 45 := by decide) (hst : stW rest ≤ 8 := by exact Nat.le_of_ble_eq_true rfl)
    (kk : ∀ r σ', P r σ' → G Γ M d B post u (pc + 3) L (vL r :: rest) (n, ρ, σ')) : G Γ M d B post u pc L (w1 :: rest) (n, ρ, σ) :=
  g_callS hc hq hv hl rfl hd' hm (by subst hu; exact ⟨Nat.le_refl _, Nat.le_refl _⟩) hst hd rfl (fun v τ' h => by obtain ⟨r, σ', rfl, rfl, hP⟩ := h; exact kk r σ' hP)
theorem g_cV1V {M' : MI} {d' : Nat} {w1 : Value} {rest : List Value} {P : (Nat → Int → Int) → Prop} {k ci idx : Nat} {T : u_T} {N : Nat} (hc : Ct Γ M' d' (0, 0) (vR Γ k :: [w1]) (n, ρ, σ) (pV n ρ P)) (hq : Cal M' 1) (hv : Cond.instanceMethod M'.1 ∈ tblG) (hsl : Cond.selects M'.1.cls M'.1 M'.1 ∈ tblG) (hl : LinkM M.1.cls idx M'.1) (hd : decode M.2.1 pc = .ok (.invokevirtual idx, 3)) (hs : shp k = (0, ci) := by rfl) (hcl : vwCl[ci]? = some (M'.1.cls, T, N) := by rfl) (hu : u = B := by rfl) (hk : k < n := by decide) (hd' : d' + 1 ≤ d := by omega) (hm : M'.2.2.1 ≤ 45 := by decide) (hst : stW rest ≤ 8 := by exact Nat.le_of_ble_eq_true rfl)
    (kk : ∀ σ', P σ' → G Γ M d B post u (pc + 3) L rest (n, ρ, σ')) : G Γ M d B post u pc L (w1 :: vR Γ k :: rest) (n, ρ, σ) :=
  g_callV hc hq hv hsl hk hs hcl hl rfl hd' hm (by subst hu; exact ⟨Nat.le_refl _, Nat.le_refl _⟩) hst hd rfl (fun v τ' h => by obtain ⟨σ', rfl, rfl, hP⟩ := h; exact kk σ' hP)
theorem g_cS1V {M' : MI} {d' : Nat} {w1 : Value} {rest : List Value} {P : (Nat → Int → Int) → Prop} {idx : Nat} (hc : Ct Γ M' d' (0, 0) [w1] (n, ρ, σ) (pV n ρ P)) (hq : Cal M' 1) (hv : Cond.static M'.1 ∈ tblG) (hl : LinkM M.1.cls idx M'.1) (hd : decode M.2.1 pc = .ok (.invokestatic idx, 3)) (hu : u = B := by rfl) (hd' : d' + 1 ≤ d := by omega) (hm : M'.2.2.1 ≤ 45 := by decide) (hst : stW rest ≤ 8 := by exact Nat.le_of_ble_eq_true rfl)
    (kk : ∀ σ', P σ' → G Γ M d B post u (pc + 3) L rest (n, ρ, σ')) : G Γ M d B post u pc L (w1 :: rest) (n, ρ, σ) :=
  g_callS hc hq hv hl rfl hd' hm (by subst hu; exact ⟨Nat.le_refl _, Nat.le_refl _⟩) hst hd rfl (fun v τ' h => by obtain ⟨σ', rfl, rfl, hP⟩ := h; exact kk σ' hP)
theorem g_cV1R {M' : MI} {d' : Nat} {w1 : Value} {rest : List Value} {P : (Nat → Nat → Nat) → (Nat → Int → Int) → Prop} {k ci idx : Nat} {T : u_T} {N : Nat} (hc : Ct Γ M' d' (0, 0) (vR Γ k :: [w1]) (n, ρ, σ) (pVR n P)) (hq : Cal M' 1) (hv : Cond.instanceMethod M'.1 ∈ tblG) (hsl : Cond.selects M'.1.cls M'.1 M'.1 ∈ tblG) (hl : LinkM M.1.cls idx M'.1) (hd : decode M.2.1 pc = .ok (.invokevirtual idx, 3)) (hs : shp k = (0, ci) := by rfl) (hcl : vwCl[ci]? = some (M'.1.cls, T, N) := by rfl) (hu : u = B := by rfl) (hk : k < n := by decide) (hd' : d' + 1 ≤ d := by omega) (hm : M'.2.2.1 ≤ 45 := by decide) (hst : stW rest ≤ 8 := by exact Nat.le_of_ble_eq_true rfl)
    (kk : ∀ ρ' σ', P ρ' σ' → G Γ M d B post u (pc + 3) L rest (n, ρ', σ')) : G Γ M d B post u pc L (w1 :: vR Γ k :: rest) (n, ρ, σ) :=
  g_callV hc hq hv hsl hk hs hcl hl rfl hd' hm (by subst hu; exact ⟨Nat.le_refl _, Nat.le_refl _⟩) hst hd rfl (fun v τ' h => by obtain ⟨ρ', σ', rfl, rfl, hP⟩ := h; exact kk ρ' σ' hP)
theorem g_cV2I {M' : MI} {d' : Nat} {w1 w2 : Value} {rest : List Value} {P : Int → (Nat → Int → Int) → Prop} {k ci idx : Nat} {T : u_T} {N : Nat} (hc : Ct Γ M' d' (0, 0) (vR Γ k :: [w1, w2]) (n, ρ, σ) (pI n ρ P)) (hq : Cal M' 2) (hv : Cond.instanceMethod M'.1 ∈ tblG) (hsl : Cond.selects M'.1.cls M'.1 M'.1 ∈ tblG) (hl : LinkM M.1.cls idx M'.1) (hd : decode M.2.1 pc = .ok (.invokevirtual idx, 3)) (hs : shp k = (0, ci) := by rfl) (hcl : vwCl[ci]? = some (M'.1.cls, T, N) := by rfl) (hu : u = B := by rfl) (hk : k < n := by decide) (hd' : d' + 1 ≤ d := by omega) (hm : M'.2.2.1 ≤ 45 := by decide) (hst : stW rest ≤ 8 := by exact Nat.le_of_ble_eq_true rfl)
    (kk : ∀ r σ', P r σ' → G Γ M d B post u (pc + 3) L (vI r :: rest) (n, ρ, σ')) : G Γ M d B post u pc L (w2 :: w1 :: vR Γ k :: rest) (n, ρ, σ) :=
  g_callV hc hq hv hsl hk hs hcl hl rfl hd' hm (by subst hu; exact ⟨Nat.le_refl _, Nat.le_refl _⟩) hst hd rfl (fun v τ' h => by obtain ⟨r, σ', rfl, rfl, hP⟩ := h; exact kk r σ' hP)
theorem g_cS2I {M' : MI} {d' : Nat} {w1 w2 : Value} {rest : List Value} {P : Int → (Nat → Int → Int) → Prop} {idx : Nat} (hc : Ct Γ M' d' (0, 0) [w1, w2] (n, ρ, σ) (pI n ρ P)) (hq : Cal M' 2) (hv : Cond.static M'.1 ∈ tblG) (hl : LinkM M.1.cls idx M'.1) (hd : decode M.2.1 pc = .ok (.invokestatic idx, 3)) (hu : u = B := by rfl) (hd' : d' + 1 ≤ d := by omega) (hm : M'.2.2.1 ≤ 45 := by decide) (hst : stW rest ≤ 8 := by exact Nat.le_of_ble_eq_true rfl)
    (kk : ∀ r σ', P r σ' → G Γ M d B post u (pc + 3) L (vI r :: rest) (n, ρ, σ')) : G Γ M d B post u pc L (w2 :: w1 :: rest) (n, ρ, σ) :=
  g_callS hc hq hv hl rfl hd' hm (by subst hu; exact ⟨Nat.le_refl _, Nat.le_refl _⟩) hst hd rfl (fun v τ' h => by obtain ⟨r, σ', rfl, rfl, hP⟩ := h; exact kk r σ' hP)
theorem g_cV2L {M' : MI} {d' : Nat} {w1 w2 : Value} {rest : List Value} {P : Int → (Nat → Int → Int) → Prop} {k ci idx : Nat} {T : u_T} {N : Nat} (hc : Ct Γ M' d' (0, 0) (vR Γ k :: [w1, w2]) (n, ρ, σ) (pL n ρ P)) (hq : Cal M' 2) (hv : Cond.instanceMethod M'.1 ∈ tblG) (hsl : Cond.selects M'.1.cls M'.1 M'.1 ∈ tblG) (hl : LinkM M.1.cls idx M'.1) (hd : decode M.2.1 pc = .ok (.invokevirtual idx, 3)) (hs : shp k = (0, ci) := by rfl) (hcl : vwCl[ci]? = some (M'.1.cls, T, N) := by rfl) (hu : u = B := by rfl) (hk : k < n := by decide) (hd' : d' + 1 ≤ d := by omega) (hm : M'.2.2.1 ≤ 45 := by decide) (hst : stW rest ≤ 8 := by exact Nat.le_of_ble_eq_true rfl)
    (kk : ∀ r σ', P r σ' → G Γ M d B post u (pc + 3) L (vL r :: rest) (n, ρ, σ')) : G Γ M d B post u pc L (w2 :: w1 :: vR Γ k :: rest) (n, ρ, σ) :=
  g_callV hc hq hv hsl hk hs hcl hl rfl hd' hm (by subst hu; exact ⟨Nat.le_refl _, Nat.le_refl _⟩) hst hd rfl (fun v τ' h => by obtain ⟨r, σ', rfl, rfl, hP⟩ := h; exact kk r σ' hP)
theorem g_cS2L {M' : MI} {d' : Nat} {w1 w2 : Value} {rest : List Value} {P : Int → (Nat → Int → Int) → Prop} {idx : Nat} (hc : Ct Γ M' d' (0, 0) [w1, w2] (n, ρ, σ) (pL n ρ P)) (hq : Cal M' 2) (hv : Cond.static M'.1 ∈ tblG) (hl : LinkM M.1.cls idx M'.1) (hd : decode M.2.1 pc = .ok (.invokestatic idx, 3)) (hu : u = B := by rfl) (hd' : d' + 1 ≤ d := by omega) (hm : M'.2.2.1 ≤ 45 := by decide) (hst : stW rest ≤ 8 := by exact Nat.le_of_ble_eq_true rfl)
    (kk : ∀ r σ', P r σ' → G Γ M d B post u (pc + 3) L (vL r :: rest) (n, ρ, σ')) : G Γ M d B post u pc L (w2 :: w1 :: rest) (n, ρ, σ) :=
  g_callS hc hq hv hl rfl hd' hm (by subst hu; exact ⟨Nat.le_refl _, Nat.le_refl _⟩) hst hd rfl (fun v τ' h => by obtain ⟨r, σ', rfl, rfl, hP⟩ := h; exact kk r σ' hP)
theorem g_cV2A {M' : MI} {d' : Nat} {w1 w2 : Value} {rest : List Value} {P : Nat → (Nat → Int → Int) → Prop} {k ci idx : Nat} {T : u_T} {N : Nat} (hc : Ct Γ M' d' (0, 0) (vR Γ k :: [w1, w2]) (n, ρ, σ) (pA Γ n ρ P)) (hq : Cal M' 2) (hv : Cond.instanceMethod M'.1 ∈ tblG) (hsl : Cond.selects M'.1.cls M'.1 M'.1 ∈ tblG) (hl : LinkM M.1.cls idx M'.1) (hd : decode M.2.1 pc = .ok (.invokevirtual idx, 3)) (hs : shp k = (0, ci) := by rfl) (hcl : vwCl[ci]? = some (M'.1.cls, T, N) := by rfl) (hu : u = B := by rfl) (hk : k < n := by decide) (hd' : d' + 1 ≤ d := by omega) (hm : M'.2.2.1 ≤ 45 := by decide) (hst : stW rest ≤ 8 := by exact Nat.le_of_ble_eq_true rfl)
    (kk : ∀ r σ', P r σ' → G Γ M d B post u (pc + 3) L (vR Γ r :: rest) (n, ρ, σ')) : G Γ M d B post u pc L (w2 :: w1 :: vR Γ k :: rest) (n, ρ, σ) :=
  g_callV hc hq hv hsl hk hs hcl hl rfl hd' hm (by subst hu; exact ⟨Nat.le_refl _, Nat.le_refl _⟩) hst hd rfl (fun v τ' h => by obtain ⟨r, σ', rfl, rfl, hP⟩ := h; exact kk r σ' hP)
theorem g_cV2V {M' : MI} {d' : Nat} {w1 w2 : Value} {rest : List Value} {P : (Nat → Int → Int) → Prop} {k ci idx : Nat} {T : u_T} {N : Nat} (hc : Ct Γ M' d' (0, 0) (vR Γ k :: [w1, w2]) (n, ρ, σ) (pV n ρ P)) (hq : Cal M' 2) (hv : Cond.instanceMethod M'.1 ∈ tblG) (hsl : Cond.selects M'.1.cls M'.1 M'.1 ∈ tblG) (hl : LinkM M.1.cls idx M'.1) (hd : decode M.2.1 pc = .ok (.invokevirtual idx, 3)) (hs : shp k = (0, ci) := by rfl) (hcl : vwCl[ci]? = some (M'.1.cls, T, N) := by rfl) (hu : u = B := by rfl) (hk : k < n := by decide) (hd' : d' + 1 ≤ d := by omega) (hm : M'.2.2.1 ≤ 45 := by decide) (hst : stW rest ≤ 8 := by exact Nat.le_of_ble_eq_true rfl)
    (kk : ∀ σ', P σ' → G Γ M d B post u (pc + 3) L rest (n, ρ, σ')) : G Γ M d B post u pc L (w2 :: w1 :: vR Γ k :: rest) (n, ρ, σ) :=
  g_callV hc hq hv hsl hk hs hcl hl rfl hd' hm (by subst hu; exact ⟨Nat.le_refl _, Nat.le_refl _⟩) hst hd rfl (fun v τ' h => by obtain ⟨σ', rfl, rfl, hP⟩ := h; exact kk σ' hP)
theorem g_cS2V {M' : MI} {d' : Nat} {w1 w2 : Value} {rest : List Value} {P : (Nat → Int → Int) → Prop} {idx : Nat} (hc : Ct Γ M' d' (0, 0) [w1, w2] (n, ρ, σ) (pV n ρ P)) (hq : Cal M' 2) (hv : Cond.static M'.1 ∈ tblG) (hl : LinkM M.1.cls idx M'.1) (hd : decode M.2.1 pc = .ok (.invokestatic idx, 3)) (hu : u = B := by rfl) (hd' : d' + 1 ≤ d := by omega) (hm : M'.2.2.1 ≤ 45 := by decide) (hst : stW rest ≤ 8 := by exact Nat.le_of_ble_eq_true rfl)
    (kk : ∀ σ', P σ' → G Γ M d B post u (pc + 3) L rest (n, ρ, σ')) : G Γ M d B post u pc L (w2 :: w1 :: rest) (n, ρ, σ) :=
  g_callS hc hq hv hl rfl hd' hm (by subst hu; exact ⟨Nat.le_refl _, Nat.le_refl _⟩) hst hd rfl (fun v τ' h => by obtain ⟨σ', rfl, rfl, hP⟩ := h; exact kk σ' hP)
theorem g_cV3I {M' : MI} {d' : Nat} {w1 w2 w3 : Value} {rest : List Value} {P : Int → (Nat → Int → Int) → Prop} {k ci idx : Nat} {T : u_T} {N : Nat} (hc : Ct Γ M' d' (0, 0) (vR Γ k :: [w1, w2, w3]) (n, ρ, σ) (pI n ρ P)) (hq : Cal M' 3) (hv : Cond.instanceMethod M'.1 ∈ tblG) (hsl : Cond.selects M'.1.cls M'.1 M'.1 ∈ tblG) (hl : LinkM M.1.cls idx M'.1) (hd : decode M.2.1 pc = .ok (.invokevirtual idx, 3)) (hs : shp k = (0, ci) := by rfl) (hcl : vwCl[ci]? = some (M'.1.cls, T, N) := by rfl) (hu : u = B := by rfl) (hk : k < n := by decide) (hd' : d' + 1 ≤ d := by omega) (hm : M'.2.2.1 ≤ 45 := by decide) (hst : stW rest ≤ 8 := by exact Nat.le_of_ble_eq_true rfl)
    (kk : ∀ r σ', P r σ' → G Γ M d B post u (pc + 3) L (vI r :: rest) (n, ρ, σ')) : G Γ M d B post u pc L (w3 :: w2 :: w1 :: vR Γ k :: rest) (n, ρ, σ) :=
  g_callV hc hq hv hsl hk hs hcl hl rfl hd' hm (by subst hu; exact ⟨Nat.le_refl _, Nat.le_refl _⟩) hst hd rfl (fun v τ' h => by obtain ⟨r, σ', rfl, rfl, hP⟩ := h; exact kk r σ' hP)
theorem g_cS3I {M' : MI} {d' : Nat} {w1 w2 w3 : Value} {rest : List Value} {P : Int → (Nat → Int → Int) → Prop} {idx : Nat} (hc : Ct Γ M' d' (0, 0) [w1, w2, w3] (n, ρ, σ) (pI n ρ P)) (hq : Cal M' 3) (hv : Cond.static M'.1 ∈ tblG) (hl : LinkM M.1.cls idx M'.1) (hd : decode M.2.1 pc = .ok (.invokestatic idx, 3)) (hu : u = B := by rfl) (hd' : d' + 1 ≤ d := by omega) (hm : M'.2.2.1 ≤ 45 := by decide) (hst : stW rest ≤ 8 := by exact Nat.le_of_ble_eq_true rfl)
    (kk : ∀ r σ', P r σ' → G Γ M d B post u (pc + 3) L (vI r :: rest) (n, ρ, σ')) : G Γ M d B post u pc L (w3 :: w2 :: w1 :: rest) (n, ρ, σ) :=
  g_callS hc hq hv hl rfl hd' hm (by subst hu; exact ⟨Nat.le_refl _, Nat.le_refl _⟩) hst hd rfl (fun v τ' h => by obtain ⟨r, σ', rfl, rfl, hP⟩ := h; exact kk r σ' hP)
theorem g_cV3L {M' : MI} {d' : Nat} {w1 w2 w3 : Value} {rest : List Value} {P : Int → (Nat → Int → Int) → Prop} {k ci idx : Nat} {T : u_T} {N : Nat} (hc : Ct Γ M' d' (0, 0) (vR Γ k :: [w1, w2, w3]) (n, ρ, σ) (pL n ρ P)) (hq : Cal M' 3) (hv : Cond.instanceMethod M'.1 ∈ tblG) (hsl : Cond.selects M'.1.cls M'.1 M'.1 ∈ tblG) (hl : LinkM M.1.cls idx M'.1) (hd : decode M.2.1 pc = .ok (.invokevirtual idx, 3)) (hs : shp k = (0, ci) := by rfl) (hcl : vwCl[ci]? = some (M'.1.cls, T, N) := by rfl) (hu : u = B := by rfl) (hk : k < n := by decide) (hd' : d' + 1 ≤ d := by omega) (hm : M'.2.2.1 ≤ 45 := by decide) (hst : stW rest ≤ 8 := by exact Nat.le_of_ble_eq_true rfl)
    (kk : ∀ r σ', P r σ' → G Γ M d B post u (pc + 3) L (vL r :: rest) (n, ρ, σ')) : G Γ M d B post u pc L (w3 :: w2 :: w1 :: vR Γ k :: rest) (n, ρ, σ) :=
  g_callV hc hq hv hsl hk hs hcl hl rfl hd' hm (by subst hu; exact ⟨Nat.le_refl _, Nat.le_refl _⟩) hst hd rfl (fun v τ' h => by obtain ⟨r, σ', rfl, rfl, hP⟩ := h; exact kk r σ' hP)
theorem g_cS3L {M' : MI} {d' : Nat} {w1 w2 w3 : Value} {rest : List Value} {P : Int → (Nat → Int → Int) → Prop} {idx : Nat} (hc : Ct Γ M' d' (0, 0) [w1, w2, w3] (n, ρ, σ) (pL n ρ P)) (hq : Cal M' 3) (hv : Cond.static M'.1 ∈ tblG) (hl : LinkM M.1.cls idx M'.1) (hd : decode M.2.1 pc = .ok (.invokestatic idx, 3)) (hu : u = B := by rfl) (hd' : d' + 1 ≤ d := by omega) (hm : M'.2.2.1 ≤ 45 := by decide) (hst : stW rest ≤ 8 := by exact Nat.le_of_ble_eq_true rfl)
    (kk : ∀ r σ', P r σ' → G Γ M d B post u (pc + 3) L (vL r :: rest) (n, ρ, σ')) : G Γ M d B post u pc L (w3 :: w2 :: w1 :: rest) (n, ρ, σ) :=
  g_callS hc hq hv hl rfl hd' hm (by subst hu; exact ⟨Nat.le_refl _, Nat.le_refl _⟩) hst hd rfl (fun v τ' h => by obtain ⟨r, σ', rfl, rfl, hP⟩ := h; exact kk r σ' hP)
theorem g_cV3V {M' : MI} {d' : Nat} {w1 w2 w3 : Value} {rest : List Value} {P : (Nat → Int → Int) → Prop} {k ci idx : Nat} {T : u_T} {N : Nat} (hc : Ct Γ M' d' (0, 0) (vR Γ k :: [w1, w2, w3]) (n, ρ, σ) (pV n ρ P)) (hq : Cal M' 3) (hv : Cond.instanceMethod M'.1 ∈ tblG) (hsl : Cond.selects M'.1.cls M'.1 M'.1 ∈ tblG) (hl : LinkM M.1.cls idx M'.1) (hd : decode M.2.1 pc = .ok (.invokevirtual idx, 3)) (hs : shp k = (0, ci) := by rfl) (hcl : vwCl[ci]? = some (M'.1.cls, T, N) := by rfl) (hu : u = B := by rfl) (hk : k < n := by decide) (hd' : d' + 1 ≤ d := by omega) (hm : M'.2.2.1 ≤ 45 := by decide) (hst : stW rest ≤ 8 := by exact Nat.le_of_ble_eq_true rfl)
    (kk : ∀ σ', P σ' → G Γ M d B post u (pc + 3) L rest (n, ρ, σ')) : G Γ M d B post u pc L (w3 :: w2 :: w1 :: vR Γ k :: rest) (n, ρ, σ) :=
  g_callV hc hq hv hsl hk hs hcl hl rfl hd' hm (by subst hu; exact ⟨Nat.le_refl _, Nat.le_refl _⟩) hst hd rfl (fun v τ' h => by obtain ⟨σ', rfl, rfl, hP⟩ := h; exact kk σ' hP)
theorem g_cS3V {M' : MI} {d' : Nat} {w1 w2 w3 : Value} {rest : List Value} {P : (Nat → Int → Int) → Prop} {idx : Nat} (hc : Ct Γ M' d' (0, 0) [w1, w2, w3] (n, ρ, σ) (pV n ρ P)) (hq : Cal M' 3) (hv : Cond.static M'.1 ∈ tblG) (hl : LinkM M.1.cls idx M'.1) (hd : decode M.2.1 pc = .ok (.invokestatic idx, 3)) (hu : u = B := by rfl) (hd' : d' + 1 ≤ d := by omega) (hm : M'.2.2.1 ≤ 45 := by decide) (hst : stW rest ≤ 8 := by exact Nat.le_of_ble_eq_true rfl)
    (kk : ∀ σ', P σ' → G Γ M d B post u (pc + 3) L rest (n, ρ, σ')) : G Γ M d B post u pc L (w3 :: w2 :: w1 :: rest) (n, ρ, σ) :=
  g_callS hc hq hv hl rfl hd' hm (by subst hu; exact ⟨Nat.le_refl _, Nat.le_refl _⟩) hst hd rfl (fun v τ' h => by obtain ⟨σ', rfl, rfl, hP⟩ := h; exact kk σ' hP)
theorem g_cV4I {M' : MI} {d' : Nat} {w1 w2 w3 w4 : Value} {rest : List Value} {P : Int → (Nat → Int → Int) → Prop} {k ci idx : Nat} {T : u_T} {N : Nat} (hc : Ct Γ M' d' (0, 0) (vR Γ k :: [w1, w2, w3, w4]) (n, ρ, σ) (pI n ρ P)) (hq : Cal M' 4) (hv : Cond.instanceMethod M'.1 ∈ tblG) (hsl : Cond.selects M'.1.cls M'.1 M'.1 ∈ tblG) (hl : LinkM M.1.cls idx M'.1) (hd : decode M.2.1 pc = .ok (.invokevirtual idx, 3)) (hs : shp k = (0, ci) := by rfl) (hcl : vwCl[ci]? = some (M'.1.cls, T, N) := by rfl) (hu : u = B := by rfl) (hk : k < n := by decide) (hd' : d' + 1 ≤ d := by omega) (hm : M'.2.2.1 ≤ 45 := by decide) (hst : stW rest ≤ 8 := by exact Nat.le_of_ble_eq_true rfl)
    (kk : ∀ r σ', P r σ' → G Γ M d B post u (pc + 3) L (vI r :: rest) (n, ρ, σ')) : G Γ M d B post u pc L (w4 :: w3 :: w2 :: w1 :: vR Γ k :: rest) (n, ρ, σ) :=
  g_callV hc hq hv hsl hk hs hcl hl rfl hd' hm (by subst hu; exact ⟨Nat.le_refl _, Nat.le_refl _⟩) hst hd rfl (fun v τ' h => by obtain ⟨r, σ', rfl, rfl, hP⟩ := h; exact kk r σ' hP)
theorem g_cS4I {M' : MI} {d' : Nat} {w1 w2 w3 w4 : Value} {rest : List Value} {P : Int → (Nat → Int → Int) → Prop} {idx : Nat} (hc : Ct Γ M' d' (0, 0) [w1, w2, w3, w4] (n, ρ, σ) (pI n ρ P)) (hq : Cal M' 4) (hv : Cond.static M'.1 ∈ tblG) (hl : LinkM M.1.cls idx M'.1) (hd : decode M.2.1 pc = .ok (.invokestatic idx, 3)) (hu : u = B := by rfl) (hd' : d' + 1 ≤ d := by omega) (hm : M'.2.2.1 ≤ 45 := by decide) (hst : stW rest ≤ 8 := by exact Nat.le_of_ble_eq_true rfl)
    (kk : ∀ r σ', P r σ' → G Γ M d B post u (pc + 3) L (vI r :: rest) (n, ρ, σ')) : G Γ M d B post u pc L (w4 :: w3 :: w2 :: w1 :: rest) (n, ρ, σ) :=
  g_callS hc hq hv hl rfl hd' hm (by subst hu; exact ⟨Nat.le_refl _, Nat.le_refl _⟩) hst hd rfl (fun v τ' h => by obtain ⟨r, σ', rfl, rfl, hP⟩ := h; exact kk r σ' hP)
theorem g_cV4L {M' : MI} {d' : Nat} {w1 w2 w3 w4 : Value} {rest : List Value} {P : Int → (Nat → Int → Int) → Prop} {k ci idx : Nat} {T : u_T} {N : Nat} (hc : Ct Γ M' d' (0, 0) (vR Γ k :: [w1, w2, w3, w4]) (n, ρ, σ) (pL n ρ P)) (hq : Cal M' 4) (hv : Cond.instanceMethod M'.1 ∈ tblG) (hsl : Cond.selects M'.1.cls M'.1 M'.1 ∈ tblG) (hl : LinkM M.1.cls idx M'.1) (hd : decode M.2.1 pc = .ok (.invokevirtual idx, 3)) (hs : shp k = (0, ci) := by rfl) (hcl : vwCl[ci]? = some (M'.1.cls, T, N) := by rfl) (hu : u = B := by rfl) (hk : k < n := by decide) (hd' : d' + 1 ≤ d := by omega) (hm : M'.2.2.1 ≤ 45 := by decide) (hst : stW rest ≤ 8 := by exact Nat.le_of_ble_eq_true rfl)
    (kk : ∀ r σ', P r σ' → G Γ M d B post u (pc + 3) L (vL r :: rest) (n, ρ, σ')) : G Γ M d B post u pc L (w4 :: w3 :: w2 :: w1 :: vR Γ k :: rest) (n, ρ, σ) :=
  g_callV hc hq hv hsl hk hs hcl hl rfl hd' hm (by subst hu; exact ⟨Nat.le_refl _, Nat.le_refl _⟩) hst hd rfl (fun v τ' h => by obtain ⟨r, σ', rfl, rfl, hP⟩ := h; exact kk r σ' hP)
theorem g_cS4L {M' : MI} {d' : Nat} {w1 w2 w3 w4 : Value} {rest : List Value} {P : Int → (Nat → Int → Int) → Prop} {idx : Nat} (hc : Ct Γ M' d' (0, 0) [w1, w2, w3, w4] (n, ρ, σ) (pL n ρ P)) (hq : Cal M' 4) (hv : Cond.static M'.1 ∈ tblG) (hl : LinkM M.1.cls idx M'.1) (hd : decode M.2.1 pc = .ok (.invokestatic idx, 3)) (hu : u = B := by rfl) (hd' : d' + 1 ≤ d := by omega) (hm : M'.2.2.1 ≤ 45 := by decide) (hst : stW rest ≤ 8 := by exact Nat.le_of_ble_eq_true rfl)
    (kk : ∀ r σ', P r σ' → G Γ M d B post u (pc + 3) L (vL r :: rest) (n, ρ, σ')) : G Γ M d B post u pc L (w4 :: w3 :: w2 :: w1 :: rest) (n, ρ, σ) :=
  g_callS hc hq hv hl rfl hd' hm (by subst hu; exact ⟨Nat.le_refl _, Nat.le_refl _⟩) hst hd rfl (fun v τ' h => by obtain ⟨r, σ', rfl, rfl, hP⟩ := h; exact kk r σ' hP)
theorem g_cV4V {M' : MI} {d' : Nat} {w1 w2 w3 w4 : Value} {rest : List Value} {P : (Nat → Int → Int) → Prop} {k ci idx : Nat} {T : u_T} {N : Nat} (hc : Ct Γ M' d' (0, 0) (vR Γ k :: [w1, w2, w3, w4]) (n, ρ, σ) (pV n ρ P)) (hq : Cal M' 4) (hv : Cond.instanceMethod M'.1 ∈ tblG) (hsl : Cond.selects M'.1.cls M'.1 M'.1 ∈ tblG) (hl : LinkM M.1.cls idx M'.1) (hd : decode M.2.1 pc = .ok (.invokevirtual idx, 3)) (hs : shp k = (0, ci) := by rfl) (hcl : vwCl[ci]? = some (M'.1.cls, T, N) := by rfl) (hu : u = B := by rfl) (hk : k < n := by decide) (hd' : d' + 1 ≤ d := by omega) (hm : M'.2.2.1 ≤ 45 := by decide) (hst : stW rest ≤ 8 := by exact Nat.le_of_ble_eq_true rfl)
    (kk : ∀ σ', P σ' → G Γ M d B post u (pc + 3) L rest (n, ρ, σ')) : G Γ M d B post u pc L (w4 :: w3 :: w2 :: w1 :: vR Γ k :: rest) (n, ρ, σ) :=
  g_callV hc hq hv hsl hk hs hcl hl rfl hd' hm (by subst hu; exact ⟨Nat.le_refl _, Nat.le_refl _⟩) hst hd rfl (fun v τ' h => by obtain ⟨σ', rfl, rfl, hP⟩ := h; exact kk σ' hP)
theorem g_cS4V {M' : MI} {d' : Nat} {w1 w2 w3 w4 : Value} {rest : List Value} {P : (Nat → Int → Int) → Prop} {idx : Nat} (hc : Ct Γ M' d' (0, 0) [w1, w2, w3, w4] (n, ρ, σ) (pV n ρ P)) (hq : Cal M' 4) (hv : Cond.static M'.1 ∈ tblG) (hl : LinkM M.1.cls idx M'.1) (hd : decode M.2.1 pc = .ok (.invokestatic idx, 3)) (hu : u = B := by rfl) (hd' : d' + 1 ≤ d := by omega) (hm : M'.2.2.1 ≤ 45 := by decide) (hst : stW rest ≤ 8 := by exact Nat.le_of_ble_eq_true rfl)
    (kk : ∀ σ', P σ' → G Γ M d B post u (pc + 3) L rest (n, ρ, σ')) : G Γ M d B post u pc L (w4 :: w3 :: w2 :: w1 :: rest) (n, ρ, σ) :=
  g_callS hc hq hv hl rfl hd' hm (by subst hu; exact ⟨Nat.le_refl _, Nat.le_refl _⟩) hst hd rfl (fun v τ' h => by obtain ⟨σ', rfl, rfl, hP⟩ := h; exact kk σ' hP)
theorem g_cV5I {M' : MI} {d' : Nat} {w1 w2 w3 w4 w5 : Value} {rest : List Value} {P : Int → (Nat → Int → Int) → Prop} {k ci idx : Nat} {T : u_T} {N : Nat} (hc : Ct Γ M' d' (0, 0) (vR Γ k :: [w1, w2, w3, w4, w5]) (n, ρ, σ) (pI n ρ P)) (hq : Cal M' 5) (hv : Cond.instanceMethod M'.1 ∈ tblG) (hsl : Cond.selects M'.1.cls M'.1 M'.1 ∈ tblG) (hl : LinkM M.1.cls idx M'.1) (hd : decode M.2.1 pc = .ok (.invokevirtual idx, 3)) (hs : shp k = (0, ci) := by rfl) (hcl : vwCl[ci]? = some (M'.1.cls, T, N) := by rfl) (hu : u = B := by rfl) (hk : k < n := by decide) (hd' : d' + 1 ≤ d := by omega) (hm : M'.2.2.1 ≤ 45 := by decide) (hst : stW rest ≤ 8 := by exact Nat.le_of_ble_eq_true rfl)
    (kk : ∀ r σ', P r σ' → G Γ M d B post u (pc + 3) L (vI r :: rest) (n, ρ, σ')) : G Γ M d B post u pc L (w5 :: w4 :: w3 :: w2 :: w1 :: vR Γ k :: rest) (n, ρ, σ) :=
  g_callV hc hq hv hsl hk hs hcl hl rfl hd' hm (by subst hu; exact ⟨Nat.le_refl _, Nat.le_refl _⟩) hst hd rfl (fun v τ' h => by obtain ⟨r, σ', rfl, rfl, hP⟩ := h; exact kk r σ' hP)
theorem g_cS5I {M' : MI} {d' : Nat} {w1 w2 w3 w4 w5 : Value} {rest : List Value} {P : Int → (Nat → Int → Int) → Prop} {idx : Nat} (hc : Ct Γ M' d' (0, 0) [w1, w2, w3, w4, w5] (n, ρ, σ) (pI n ρ P)) (hq : Cal M' 5) (hv : Cond.static M'.1 ∈ tblG) (hl : LinkM M.1.cls idx M'.1) (hd : decode M.2.1 pc = .ok (.invokestatic idx, 3)) (hu : u = B := by rfl) (hd' : d' + 1 ≤ d := by omega) (hm : M'.2.2.1 ≤ 45 := by decide) (hst : stW rest ≤ 8 := by exact Nat.le_of_ble_eq_true rfl)
    (kk : ∀ r σ', P r σ' → G Γ M d B post u (pc + 3) L (vI r :: rest) (n, ρ, σ')) : G Γ M d B post u pc L (w5 :: w4 :: w3 :: w2 :: w1 :: rest) (n, ρ, σ) :=
  g_callS hc hq hv hl rfl hd' hm (by subst hu; exact ⟨Nat.le_refl _, Nat.le_refl _⟩) hst hd rfl (fun v τ' h => by obtain ⟨r, σ', rfl, rfl, hP⟩ := h; exact kk r σ' hP)
theorem g_cV5L {M' : MI} {d' : Nat} {w1 w2 w3 w4 w5 : Value} {rest : List Value} {P : Int → (Nat → Int → Int) → Prop} {k ci idx : Nat} {T : u_T} {N : Nat} (hc : Ct Γ M' d' (0, 0) (vR Γ k :: [w1, w2, w3, w4, w5]) (n, ρ, σ) (pL n ρ P)) (hq : Cal M' 5) (hv : Cond.instanceMethod M'.1 ∈ tblG) (hsl : Cond.selects M'.1.cls M'.1 M'.1 ∈ tblG) (hl : LinkM M.1.cls idx M'.1) (hd : decode M.2.1 pc = .ok (.invokevirtual idx, 3)) (hs : shp k = (0, ci) := by rfl) (hcl : vwCl[ci]? = some (M'.1.cls, T, N) := by rfl) (hu : u = B := by rfl) (hk : k < n := by decide) (hd' : d' + 1 ≤ d := by omega) (hm : M'.2.2.1 ≤ 45 := by decide) (hst : stW rest ≤ 8 := by exact Nat.le_of_ble_eq_true rfl)
    (kk : ∀ r σ', P r σ' → G Γ M d B post u (pc + 3) L (vL r :: rest) (n, ρ, σ')) : G Γ M d B post u pc L (w5 :: w4 :: w3 :: w2 :: w1 :: vR Γ k :: rest) (n, ρ, σ) :=
  g_callV hc hq hv hsl hk hs hcl hl rfl hd' hm (by subst hu; exact ⟨Nat.le_refl _, Nat.le_refl _⟩) hst hd rfl (fun v τ' h => by obtain ⟨r, σ', rfl, rfl, hP⟩ := h; exact kk r σ' hP)
theorem g_cS5L {M' : MI} {d' : Nat} {w1 w2 w3 w4 w5 : Value} {rest : List Value} {P : Int → (Nat → Int → Int) → Prop} {idx : Nat} (hc : Ct Γ M' d' (0, 0) [w1, w2, w3, w4, w5] (n, ρ, σ) (pL n ρ P)) (hq : Cal M' 5) (hv : Cond.static M'.1 ∈ tblG) (hl : LinkM M.1.cls idx M'.1) (hd : decode M.2.1 pc = .ok (.invokestatic idx, 3)) (hu : u = B := by rfl) (hd' : d' + 1 ≤ d := by omega) (hm : M'.2.2.1 ≤ 45 := by decide) (hst : stW rest ≤ 8 := by exact Nat.le_of_ble_eq_true rfl)
    (kk : ∀ r σ', P r σ' → G Γ M d B post u (pc + 3) L (vL r :: rest) (n, ρ, σ')) : G Γ M d B post u pc L (w5 :: w4 :: w3 :: w2 :: w1 :: rest) (n, ρ, σ) :=
  g_callS hc hq hv hl rfl hd' hm (by subst hu; exact ⟨Nat.le_refl _, Nat.le_refl _⟩) hst hd rfl (fun v τ' h => by obtain ⟨r, σ', rfl, rfl, hP⟩ := h; exact kk r σ' hP)
theorem g_cV5V {M' : MI} {d' : Nat} {w1 w2 w3 w4 w5 : Value} {rest : List Value} {P : (Nat → Int → Int) → Prop} {k ci idx : Nat} {T : u_T} {N : Nat} (hc : Ct Γ M' d' (0, 0) (vR Γ k :: [w1, w2, w3, w4, w5]) (n, ρ, σ) (pV n ρ P)) (hq : Cal M' 5) (hv : Cond.instanceMethod M'.1 ∈ tblG) (hsl : Cond.selects M'.1.cls M'.1 M'.1 ∈ tblG) (hl : LinkM M.1.cls idx M'.1) (hd : decode M.2.1 pc = .ok (.invokevirtual idx, 3)) (hs : shp k = (0, ci) := by rfl) (hcl : vwCl[ci]? = some (M'.1.cls, T, N) := by rfl) (hu : u = B := by rfl) (hk : k < n := by decide) (hd' : d' + 1 ≤ d := by omega) (hm : M'.2.2.1 ≤ 45 := by decide) (hst : stW rest ≤ 8 := by exact Nat.le_of_ble_eq_true rfl)
    (kk : ∀ σ', P σ' → G Γ M d B post u (pc + 3) L rest (n, ρ, σ')) : G Γ M d B post u pc L (w5 :: w4 :: w3 :: w2 :: w1 :: vR Γ k :: rest) (n, ρ, σ) :=
  g_callV hc hq hv hsl hk hs hcl hl rfl hd' hm (by subst hu; exact ⟨Nat.le_refl _, Nat.le_refl _⟩) hst hd rfl (fun v τ' h => by obtain ⟨σ', rfl, rfl, hP⟩ := h; exact kk σ' hP)
theorem g_cS5V {M' : MI} {d' : Nat} {w1 w2 w3 w4 w5 : Value} {rest : List Value} {P : (Nat → Int → Int) → Prop} {idx : Nat} (hc : Ct Γ M' d' (0, 0) [w1, w2, w3, w4, w5] (n, ρ, σ) (pV n ρ P)) (hq : Cal M' 5) (hv : Cond.static M'.1 ∈ tblG) (hl : LinkM M.1.cls idx M'.1) (hd : decode M.2.1 pc = .ok (.invokestatic idx, 3)) (hu : u = B := by rfl) (hd' : d' + 1 ≤ d := by omega) (hm : M'.2.2.1 ≤ 45 := by decide) (hst : stW rest ≤ 8 := by exact Nat.le_of_ble_eq_true rfl)
    (kk : ∀ σ', P σ' → G Γ M d B post u (pc + 3) L rest (n, ρ, σ')) : G Γ M d B post u pc L (w5 :: w4 :: w3 :: w2 :: w1 :: rest) (n, ρ, σ) :=
  g_callS hc hq hv hl rfl hd' hm (by subst hu; exact ⟨Nat.le_refl _, Nat.le_refl _⟩) hst hd rfl (fun v τ' h => by obtain ⟨σ', rfl, rfl, hP⟩ := h; exact kk σ' hP)
/-! the JDK's own -/
theorem g_objInit {idx a : Nat} (hl : Cond.methodLink M.1.cls idx objectInit ∈ tblG) (h1 : Cond.instanceMethod objectInit ∈ tblG) (h2 : Cond.code objectInit ⟨#[0xb1]⟩ 1 none ∈ tblG) (hd : decode M.2.1 pc = .ok (.invokespecial idx, 3)) (hdp : 1 ≤ d) (k : G Γ M d B post u (pc + 3) L [] τ) : G Γ M d B post u pc L [.ref a] τ := by
  intro p e R s m args below meth cd Q H locs ls C F hl' hW hS
  obtain ⟨hx, hb, hml, hown, hts, hKS, hname, hR⟩ := id C
  refine W.objInit hx hb hown (hts _ hl) (hts _ h1) (hts _ h2) rfl (by rw [hml]; exact hl'.1) rfl hd (by omega) ?_ ?_
  · show 2 * 0 + 0 + 12 ≤ R.locals
    omega
  · exact k p e R s m args below meth cd Q H locs ls C F hl' hW hS
def NM (w : MethodName) (bt : ByteArray) (k : Nat) : Prop := Cond.static w ∈ tblG ∧ Cond.initialized "java/lang/Math" ∈ tblG ∧ Cond.code w bt k (some .int) ∈ tblG
theorem g_max {idx : Nat} {a b : Int} (ha : R32 a) (hb : R32 b) (hl : Cond.methodLink M.1.cls idx Lib.Math.max.name ∈ tblG) (h1 : NM Lib.Math.max.name Lib.Math.max.code 2) (hd : decode M.2.1 pc = .ok (.invokestatic idx, 3)) (hdp : 1 ≤ d) (hu : u = B) (hst : stW st ≤ 8 := by exact Nat.le_of_ble_eq_true rfl) (k : G Γ M d B post u (pc + 3) L (vI (if a < b then b else a) :: st) τ) : G Γ M d B post u pc L (vI b :: vI a :: st) τ := by
  intro p e R s m args below meth cd Q H locs ls C F hl' hW hS
  obtain ⟨hx, hb', hml, hown, hts, hKS, hname, hR⟩ := id C
  subst hu
  have hroom : stW st + 13 ≤ R.locals := by omega
  refine va_mmax hx hb' (hml.trans hl'.1.symm) hown (hts _ hl) (hts _ h1.1) (hts _ h1.2.1) (hts _ h1.2.2) (by omega) hroom (by omega) (by omega) hd ?_
  have K := k p e R s m args below meth cd Q H locs ls C F hl' hW hS
  have e : Int32.ofInt (if a < b then b else a) = (if Int32.ofInt a < Int32.ofInt b then Int32.ofInt b else Int32.ofInt a) := by
    simp only [z_lt ha hb]; split <;> rfl
  unfold vI at K
  rwa [e] at K
theorem g_min {idx : Nat} {a b : Int} (ha : R32 a) (hb : R32 b) (hl : Cond.methodLink M.1.cls idx Lib.Math.min.name ∈ tblG) (h1 : NM Lib.Math.min.name Lib.Math.min.code 2) (hd : decode M.2.1 pc = .ok (.invokestatic idx, 3)) (hdp : 1 ≤ d) (hu : u = B) (hst : stW st ≤ 8 := by exact Nat.le_of_ble_eq_true rfl) (k : G Γ M d B post u (pc + 3) L (vI (if b < a then b else a) :: st) τ) : G Γ M d B post u pc L (vI b :: vI a :: st) τ := by
  intro p e R s m args below meth cd Q H locs ls C F hl' hW hS
  obtain ⟨hx, hb', hml, hown, hts, hKS, hname, hR⟩ := id C
  subst hu
  have hroom : stW st + 13 ≤ R.locals := by omega
  refine va_mmin hx hb' (hml.trans hl'.1.symm) hown (hts _ hl) (hts _ h1.1) (hts _ h1.2.1) (hts _ h1.2.2) (by omega) hroom (by omega) (by omega) hd ?_
  have K := k p e R s m args below meth cd Q H locs ls C F hl' hW hS
  have e : Int32.ofInt (if b < a then b else a) = (if Int32.ofInt b < Int32.ofInt a then Int32.ofInt b else Int32.ofInt a) := by
    simp only [z_lt hb ha]; split <;> rfl
  unfold vI at K
  rwa [e] at K
theorem g_abs {idx : Nat} {a : Int} (ha : R32 a) (hl : Cond.methodLink M.1.cls idx Lib.Math.abs.name ∈ tblG) (h1 : NM Lib.Math.abs.name Lib.Math.abs.code 1) (hd : decode M.2.1 pc = .ok (.invokestatic idx, 3)) (hdp : 1 ≤ d) (hu : u = B) (hst : stW st ≤ 8 := by exact Nat.le_of_ble_eq_true rfl) (k : G Γ M d B post u (pc + 3) L (vI (if 0 ≤ a then a else -a) :: st) τ) : G Γ M d B post u pc L (vI a :: st) τ := by
  intro p e R s m args below meth cd Q H locs ls C F hl' hW hS
  obtain ⟨hx, hb', hml, hown, hts, hKS, hname, hR⟩ := id C
  subst hu
  have hroom : stW st + 13 ≤ R.locals := by omega
  refine va_mabs hx hb' (hml.trans hl'.1.symm) hown (hts _ hl) (hts _ h1.1) (hts _ h1.2.1) (hts _ h1.2.2) (by omega) hroom (by omega) (by omega) hd ?_
  have K := k p e R s m args below meth cd Q H locs ls C F hl' hW hS
  have h0 : R32 0 := by omega
  have e : Int32.ofInt (if 0 ≤ a then a else -a) = (if 0 ≤ Int32.ofInt a then Int32.ofInt a else 0 - Int32.ofInt a) := by
    rw [show (0 : Int32) = Int32.ofInt 0 from rfl]
    simp only [z_le h0 ha]
    split
    · rfl
    · rw [← Int32.ofInt_sub]; congr 1; omega
  unfold vI at K
  rwa [e] at K
/-! making -/
theorem vp_V_len {fs : List Value} {j : Nat} {v : Value} (h : fs[j]? = some v) : vp_V fs j = v := by
  unfold vp_V; rw [List.getD_eq_getElem?_getD, h]; rfl
def zeroAt (n : Nat) (ρ : Nat → Nat → Nat) (σ : Nat → Int → Int) : Prop := (∀ j, ρ n j = 0) ∧ ∀ j, σ n j = 0
theorem fval_zero (hz : zeroAt n ρ σ) (x : Nat) (j t : Nat) : fval Γ (x, ρ, σ) n j t = if t = 1 then .null else .int 0 := by
  unfold fval rfv
  split
  · show va_rf (if ρ n j = 0 then none else some (kB Γ + (ρ n j - 1))) = _
    rw [hz.1 j]; simp [va_rf]
  · show vI (σ n j) = _
    rw [hz.2 j]; rfl
theorem wE_n (x y : Nat) (k : Nat) : wE Γ (x, ρ, σ) k = wE Γ (y, ρ, σ) k := rfl
theorem wd_push {H' : Heap} (hW : Wd Γ (n, ρ, σ) H) (h1 : va_at (kD Γ) vwCl (kB Γ + n, wE Γ (n + 1, ρ, σ) n) H') (z : H'.size = H.size + 1) (oq : ∀ q, q < H.size → H'[q]? = H[q]?) : Wd Γ (n + 1, ρ, σ) H' := by
  have hz : H.size = kB Γ + n := hW.1
  refine ⟨?_, fun k hk => ?_, fun q hq => ?_, hW.2.2.2⟩
  · show H'.size = kB Γ + (n + 1); omega
  · have hk : k < n + 1 := hk
    by_cases e : k = n
    · subst e; exact h1
    · exact (hW.2.1 k (show k < n by omega)).kept (oq _ (show kB Γ + k < H.size by omega))
  · rw [oq q (by omega)]; exact hW.2.2.1 q hq
theorem g_new {ci idx N : Nat} {C : String} {T : u_T} (hs : shp n = (0, ci)) (hc : vwCl[ci]? = some (C, T, N)) (hnew : Cond.instantiable C N ∈ tblG ∧ Cond.initialized C ∈ tblG) (hcl : Cond.classLink M.1.cls idx C ∈ tblG) (hf : ∀ j, j < N → ∃ t, (fk ci)[j]? = some t ∧ ∀ ty, parseFieldDescriptor (T j).2.2.1 = some ty → defaultValue ty = if t = 1 then .null else .int 0) (hz : zeroAt n ρ σ) (hd : decode M.2.1 pc = .ok (.new idx, 3)) (hu1 : u.1 + 1 ≤ B.1) (hu2 : u.2 + N ≤ B.2)
    (kk : G Γ M d B post (u.1 + 1, u.2 + N) (pc + 3) L (vR Γ n :: st) (n + 1, ρ, σ)) : G Γ M d B post u pc L st (n, ρ, σ) := by
  intro p e R s m args below meth cd Q H locs ls Cc F hl' hW hS
  obtain ⟨hx, hb, hml, hown, hts, hKS, hname, hR⟩ := id Cc
  obtain ⟨hin, ⟨ty0, hty⟩, hnm⟩ := cls_ok ci C T N hc
  have hKn := hKS.1.1 ci _ hc
  have hz' : H.size = kB Γ + n := hW.1
  refine W.newcK hx hb hown (hts _ hcl) (hts _ hnew.1) (hts _ hnew.2) rfl hd (by omega) (by omega) hKn.2.1 rfl fun H1 kC hkC e1 z1 o1 => ?_
  rw [hz'] at e1 ⊢
  refine kk p e R s m args below meth cd Q H1 locs ls Cc F hl' (wd_push hW ?_ z1 o1) hS
  rw [wE_obj hs]
  exact ⟨_, hc, (u_born ty0 hts hin hKn hkC e1 hty).to (fun j hj => by
    obtain ⟨t, ht, hdv⟩ := hf j hj
    rw [vp_V_fs ht, fval_zero hz, hdv _ (hty j hj)])⟩
theorem g_newa {t N : Nat} {atype : ArrayType} {a : Int} (hs : shp n = (t, N)) (ht : t = 1 ∧ atype = .int ∨ t = 2 ∧ atype = .long ∨ t = 3 ∧ atype = .boolean ∨ t = 4 ∧ atype = .byte) (ha : a = N) (hz : zeroAt n ρ σ) (hd : decode M.2.1 pc = .ok (.newarray atype, 2)) (hu1 : u.1 + 1 ≤ B.1) (hu2 : u.2 + N ≤ B.2)
    (kk : G Γ M d B post (u.1 + 1, u.2 + N) (pc + 2) L (vR Γ n :: st) (n + 1, ρ, σ)) : G Γ M d B post u pc L (vI a :: st) (n, ρ, σ) := by
  intro p e R s m args below meth cd Q H locs ls Cc F hl' hW hS
  obtain ⟨hx, hb, hml, hown, hts, hKS, hname, hR⟩ := id Cc
  have hN := shp_small hs
  subst ha
  have hz' : H.size = kB Γ + n := hW.1
  have hr : R32 (N : Int) := by omega
  have hcl : (Int32.ofInt (N : Int)).toNatClampNeg = N := by rw [z_clamp (by omega) hr]; omega
  have hneg : ¬ Int32.ofInt (N : Int) < 0 := fun q => by
    have := (z_lt (a := (N : Int)) (b := 0) hr (by omega)).mp q
    omega
  have word : ∀ ty, Cond.arrayClass ty ∈ lw_tbl → (Cond.arrayClass ty).before args s = true := fun ty h => hts _ (memT h rfl)
  have main : ∀ (ty : FieldType) (hty : newarray.typeOf atype = ty) (hw : Cond.arrayClass ty ∈ lw_tbl) (hay : aty t = ty) (h1 : 1 ≤ t) (h2 : t ≤ 6) (hb4 : componentBytes ty ≤ 8) (hcell : ∀ cA, vp_cell cA ((match wE Γ (n + 1, ρ, σ) n with | .inl c => c.2 | .inr _ => (0, .inl fun _ => 0)) : vp_A) = arrV cA N (fun _ => defaultValue ty)) (hwe : ∃ c : vp_A, wE Γ (n + 1, ρ, σ) n = .inl (kA Γ t, c)), W p (kL Γ) e R s m args below meth cd H locs u.1 u.2 Q (F0 m pc ls (vI (N : Int) :: st)) := by
    intro ty hty hw hay h1 h2 hb4 hcell hwe
    subst hty
    refine va_newaK hx hb (word _ hw) rfl hd rfl hneg hcl ?_ (by omega) (by omega) hz' fun H1 cA e1 z1 o1 hAr hNm => ?_
    · have : N * componentBytes (newarray.typeOf atype) ≤ 1000 * 8 := Nat.mul_le_mul (by omega) hb4
      omega
    · have hcA : cA = kA Γ t := by
        have := (hKS.2.1 t h1 h2).2
        rw [hay] at this
        exact Option.some.inj (hNm.symm.trans this)
      subst hcA
      obtain ⟨c, hc⟩ := hwe
      have hcell := hcell (kA Γ t)
      rw [hc] at hcell
      refine kk p e R s m args below meth cd Q H1 locs ls Cc F hl' (wd_push hW ?_ (by rw [z1, hz']) (fun q hq => o1 q (by omega))) hS
      rw [hc]
      show H1[kB Γ + n]? = some (vp_cell _ _)
      rw [e1]
      exact congrArg some hcell.symm
  rcases ht with ⟨rfl, rfl⟩ | ⟨rfl, rfl⟩ | ⟨rfl, rfl⟩ | ⟨rfl, rfl⟩
  · refine main .int rfl arr_int rfl (by decide) (by decide) (by decide) (fun cA => ?_) ⟨_, wE_int hs (by simp)⟩
    rw [wE_int hs (by simp)]
    show vp_cell cA (N, .inl _) = _
    rw [vp_cell_i]
    refine congrArg (arrV cA N) (funext fun j => ?_)
    show Value.int (Int32.ofInt (σ n j)) = _
    rw [hz.2]; rfl
  · refine main .long rfl arr_long rfl (by decide) (by decide) (by decide) (fun cA => ?_) ⟨_, wE_long hs⟩
    rw [wE_long hs]
    show vp_cell cA (N, .inr (.inl _)) = _
    rw [vp_cell_l]
    refine congrArg (arrV cA N) (funext fun j => ?_)
    show Value.long (Int64.ofInt (σ n j)) = _
    rw [hz.2]; rfl
  · refine main .boolean rfl arr_boolean rfl (by decide) (by decide) (by decide) (fun cA => ?_) ⟨_, wE_int hs (by simp)⟩
    rw [wE_int hs (by simp)]
    show vp_cell cA (N, .inl _) = _
    rw [vp_cell_i]
    refine congrArg (arrV cA N) (funext fun j => ?_)
    show Value.int (Int32.ofInt (σ n j)) = _
    rw [hz.2]; rfl
  · refine main .byte rfl arr_byte rfl (by decide) (by decide) (by decide) (fun cA => ?_) ⟨_, wE_int hs (by simp)⟩
    rw [wE_int hs (by simp)]
    show vp_cell cA (N, .inl _) = _
    rw [vp_cell_i]
    refine congrArg (arrV cA N) (funext fun j => ?_)
    show Value.int (Int32.ofInt (σ n j)) = _
    rw [hz.2]; rfl
end GC
