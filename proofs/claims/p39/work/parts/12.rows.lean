/-! numbers -/
theorem z_lt {a b : Int} (ha : R32 a) (hb : R32 b) : Int32.ofInt a < Int32.ofInt b ↔ a < b := by
  rw [Int32.lt_iff_toInt_lt, Int32.toInt_ofInt_of_le (by omega) (by omega), Int32.toInt_ofInt_of_le (by omega) (by omega)]
theorem z_le {a b : Int} (ha : R32 a) (hb : R32 b) : Int32.ofInt a ≤ Int32.ofInt b ↔ a ≤ b := by
  rw [Int32.le_iff_toInt_le, Int32.toInt_ofInt_of_le (by omega) (by omega), Int32.toInt_ofInt_of_le (by omega) (by omega)]
theorem z_eq {a b : Int} (ha : R32 a) (hb : R32 b) : Int32.ofInt a = Int32.ofInt b ↔ a = b := by
  rw [← Int32.toInt_inj, Int32.toInt_ofInt_of_le (by omega) (by omega), Int32.toInt_ofInt_of_le (by omega) (by omega)]
theorem z_eqL {a b : Int} (ha : R64 a) (hb : R64 b) : Int64.ofInt a = Int64.ofInt b ↔ a = b := by
  rw [← Int64.toInt_inj, Int64.toInt_ofInt_of_le (by omega) (by omega), Int64.toInt_ofInt_of_le (by omega) (by omega)]
theorem z_ltL {a b : Int} (ha : R64 a) (hb : R64 b) : Int64.ofInt a < Int64.ofInt b ↔ a < b := by
  rw [Int64.lt_iff_toInt_lt, Int64.toInt_ofInt_of_le (by omega) (by omega), Int64.toInt_ofInt_of_le (by omega) (by omega)]
theorem z_clamp {i : Int} (h0 : 0 ≤ i) (h1 : R32 i) : (Int32.ofInt i).toNatClampNeg = i.toNat := Int32.toNatClampNeg_ofInt_of_le (by omega) (by omega)
theorem z_toInt {i : Int} (h1 : R32 i) : (Int32.ofInt i).toInt = i := Int32.toInt_ofInt_of_le (by omega) (by omega)
theorem z_in {i : Int} {n : Nat} (h0 : 0 ≤ i) (h1 : i < n) (hr : R32 i) : vp_in (Int32.ofInt i) n := by
  unfold vp_in
  rw [z_clamp h0 hr, show (0 : Int32) = Int32.ofInt 0 from rfl, z_lt hr (by omega)]
  omega
theorem z_mx : Int32.maxValue.toInt = 2147483647 := by decide
theorem z_mn : Int32.minValue.toInt = -2147483648 := by decide
theorem z_R (x : Int32) : R32 x.toInt := ⟨by have := x.le_toInt; omega, by have := x.toInt_lt; omega⟩
theorem z_RL (x : Int64) : R64 x.toInt := ⟨by have := x.le_toInt; omega, by have := x.toInt_lt; omega⟩
def b2 (P : Prop) [Decidable P] : Int := if P then 1 else 0
theorem b2_t {P : Prop} [Decidable P] (h : P) : b2 P = 1 := if_pos h
theorem b2_f {P : Prop} [Decidable P] (h : ¬ P) : b2 P = 0 := if_neg h
theorem b2_r {P : Prop} [Decidable P] : 0 ≤ b2 P ∧ b2 P ≤ 1 := by unfold b2; split <;> omega
def zand (a b : Int) : Int := (Int32.ofInt a &&& Int32.ofInt b).toInt
def zor (a b : Int) : Int := (Int32.ofInt a ||| Int32.ofInt b).toInt
def zxor (a b : Int) : Int := (Int32.ofInt a ^^^ Int32.ofInt b).toInt
def zshl (a b : Int) : Int := (Int32.ofInt a <<< (Int32.ofInt b &&& 31)).toInt
def zshr (a b : Int) : Int := (Int32.ofInt a >>> (Int32.ofInt b &&& 31)).toInt
def zushr (a b : Int) : Int := (((Int32.ofInt a).toUInt32 >>> ((Int32.ofInt b).toUInt32 &&& Int32.toUInt32 31)).toInt32).toInt
def zi2b (a : Int) : Int := (Int32.ofInt a).toInt8.toInt32.toInt
def zi2s (a : Int) : Int := (Int32.ofInt a).toInt16.toInt32.toInt
def zi2c (a : Int) : Int := ((Int32.ofInt a).toUInt32 % 65536).toInt32.toInt
def zl2i (a : Int) : Int := (Int64.ofInt a).toInt32.toInt
def zlshl (a b : Int) : Int := (Int64.ofInt a <<< ((Int32.ofInt b).toInt64 &&& 63)).toInt
def zland (a b : Int) : Int := (Int64.ofInt a &&& Int64.ofInt b).toInt
def zlor (a b : Int) : Int := (Int64.ofInt a ||| Int64.ofInt b).toInt
/-! locals -/
def toL (L : List (Option Value)) : List (Nat × Value) := L.zipIdx.filterMap (fun q => q.1.map (fun v => (q.2, v)))
theorem toL_mem {L : List (Option Value)} {i : Nat} {v : Value} : (i, v) ∈ toL L ↔ L[i]? = some (some v) := by
  unfold toL
  rw [List.mem_filterMap]
  constructor
  · rintro ⟨⟨a, j⟩, h1, h2⟩
    cases a with
    | none => simp at h2
    | some w =>
      simp at h2
      obtain ⟨rfl, rfl⟩ := h2
      exact List.mem_zipIdx_iff_getElem?.mp h1
  · intro h
    exact ⟨(some v, i), List.mem_zipIdx_iff_getElem?.mpr h, rfl⟩
theorem toL_has {ls : Array Slot} {nL : Nat} {L : List (Option Value)} (h : lvD ls nL L) : lv_has ls nL (toL L) := ⟨h.1, h.2.1, fun q hq => h.2.2 q.1 q.2 (toL_mem.mp hq)⟩
def okp : Option Value → Bool
  | some v => v.category == 1
  | none => true
def prevOK (L : List (Option Value)) (i : Nat) : Prop := ∀ j, j + 1 = i → ∀ v, L[j]? = some (some v) → v.category = 1
theorem lvD_store {ls : Array Slot} {nL i : Nat} {L : List (Option Value)} {v : Value} (hp : prevOK L i) (h : lv_has ls nL ((i, v) :: (toL L).filter (fun q => !(q.1 == i) && !(q.1 + 1 == i && q.2.category == 2)))) : lvD ls nL (L.set i (some v)) := by
  refine ⟨h.1, h.2.1, fun j w hj => ?_⟩
  rw [List.getElem?_set] at hj
  by_cases e : i = j
  · subst e
    rw [if_pos rfl] at hj
    split at hj
    · simp at hj; subst hj
      exact h.2.2 (i, v) List.mem_cons_self
    · simp at hj
  · rw [if_neg e] at hj
    refine h.2.2 (j, w) (List.mem_cons_of_mem _ (List.mem_filter.mpr ⟨toL_mem.mpr hj, ?_⟩))
    have h1 : ¬ j = i := fun q => e q.symm
    by_cases h2 : j + 1 = i
    · have := hp j h2 w hj
      simp [h1, this]
    · simp [h1, h2]
theorem lvD_storeL {ls : Array Slot} {nL i : Nat} {L : List (Option Value)} {v : Value} (hp : prevOK L i) (h : lv_has ls nL ((i, v) :: (toL L).filter (fun q => !(q.1 == i) && (!(q.1 == i + 1) && !(q.1 + 1 == i && q.2.category == 2))))) : lvD ls nL ((L.set i (some v)).set (i + 1) none) := by
  refine ⟨h.1, h.2.1, fun j w hj => ?_⟩
  rw [List.getElem?_set, List.getElem?_set] at hj
  by_cases e2 : i + 1 = j
  · rw [if_pos e2] at hj
    split at hj <;> simp at hj
  rw [if_neg e2] at hj
  by_cases e : i = j
  · subst e
    rw [if_pos rfl] at hj
    split at hj
    · simp at hj; subst hj
      exact h.2.2 (i, v) List.mem_cons_self
    · simp at hj
  · rw [if_neg e] at hj
    refine h.2.2 (j, w) (List.mem_cons_of_mem _ (List.mem_filter.mpr ⟨toL_mem.mpr hj, ?_⟩))
    have h1 : ¬ j = i := fun q => e q.symm
    have h3 : ¬ j = i + 1 := fun q => e2 q.symm
    by_cases h2 : j + 1 = i
    · have := hp j h2 w hj
      simp [h1, h3, this]
    · simp [h1, h2, h3]
/-- fewer locals -/
def leL : List (Option Value) → List (Option Value) → Prop
  | [], _ => True
  | none :: a, _ :: b => leL a b
  | some v :: a, w :: b => w = some v ∧ leL a b
  | none :: a, [] => leL a []
  | some _ :: _, [] => False
theorem leL_get : ∀ (a b : List (Option Value)), leL a b → ∀ (i : Nat) (v : Value), a[i]? = some (some v) → b[i]? = some (some v)
  | [], _, _, i, v, h => by simp at h
  | none :: a, x :: b, hl, i, v, h => by
    cases i with
    | zero => simp at h
    | succ i => exact leL_get a b hl i v (by simpa using h)
  | some w :: a, x :: b, hl, i, v, h => by
    obtain ⟨rfl, hl⟩ := hl
    cases i with
    | zero => simpa using h
    | succ i => exact leL_get a b hl i v (by simpa using h)
  | none :: a, [], hl, i, v, h => by
    cases i with
    | zero => simp at h
    | succ i =>
      have := leL_get a [] hl i v (by simpa using h)
      simp at this
section GR
variable {Γ : KT} {M : MI} {d : Nat} {B : Nat × Nat} {post : Option Value → St → Prop} {u : Nat × Nat} {pc : Nat} {L : List (Option Value)} {st : List Value} {τ : St} {n : Nat} {ρ : Nat → Nat → Nat} {σ : Nat → Int → Int}
theorem g_less {L' : List (Option Value)} (hL : leL L' L) (k : G Γ M d B post u pc L' st τ) : G Γ M d B post u pc L st τ := by
  intro p e R s m args below meth cd Q H locs ls C F hl hW hS
  exact k p e R s m args below meth cd Q H locs ls C F ⟨hl.1, hl.2.1, fun i v h => hl.2.2 i v (leL_get _ _ hL i v h)⟩ hW hS
theorem g_sub {post' : Option Value → St → Prop} (hp : ∀ v τ', post' v τ' → post v τ') (k : G Γ M d B post' u pc L st τ) : G Γ M d B post u pc L st τ := by
  intro p e R s m args below meth cd Q H locs ls C F hl hW hS
  exact k p e R s m args below meth cd Q H locs ls C (fun pc ls v τ H locs a b c d => F pc ls v τ H locs a (hp _ _ b) c d) hl hW hS
theorem g_nz (k : Nz σ → G Γ M d B post u pc L st (n, ρ, σ)) : G Γ M d B post u pc L st (n, ρ, σ) := by
  intro p e R s m args below meth cd Q H locs ls C F hl hW hS
  exact k hW.2.2.2 p e R s m args below meth cd Q H locs ls C F hl hW hS
theorem g_iconst {a : Int} (hd : decode M.2.1 pc = .ok (.iconst a, 1)) (k : G Γ M d B post u (pc + 1) L (vI a :: st) τ) : G Γ M d B post u pc L st τ := by
  intro p e R s m args below meth cd Q H locs ls C F hl hW hS
  exact lv_iconst C.1 C.2.1 hd rfl (k p e R s m args below meth cd Q H locs ls C F hl hW hS)
theorem g_bipush {a : Int} (hd : decode M.2.1 pc = .ok (.bipush a, 2)) (ha : (Int8.ofInt a).toInt32 = Int32.ofInt a := by decide) (k : G Γ M d B post u (pc + 2) L (vI a :: st) τ) : G Γ M d B post u pc L st τ := by
  intro p e R s m args below meth cd Q H locs ls C F hl hW hS
  exact lv_bipush C.1 C.2.1 hd ha (k p e R s m args below meth cd Q H locs ls C F hl hW hS)
theorem g_sipush {a : Int} (hd : decode M.2.1 pc = .ok (.sipush a, 3)) (ha : (Int16.ofInt a).toInt32 = Int32.ofInt a := by decide) (k : G Γ M d B post u (pc + 3) L (vI a :: st) τ) : G Γ M d B post u pc L st τ := by
  intro p e R s m args below meth cd Q H locs ls C F hl hW hS
  exact lv_sipush C.1 C.2.1 hd ha (k p e R s m args below meth cd Q H locs ls C F hl hW hS)
theorem g_lconst {a : Fin 2} {x : Int} (hd : decode M.2.1 pc = .ok (.lconst a, 1)) (ha : Int64.ofNat (a : Nat) = Int64.ofInt x := by decide) (k : G Γ M d B post u (pc + 1) L (vL x :: st) τ) : G Γ M d B post u pc L st τ := by
  intro p e R s m args below meth cd Q H locs ls C F hl hW hS
  exact lv_lconst C.1 C.2.1 hd ha (k p e R s m args below meth cd Q H locs ls C F hl hW hS)
theorem g_ldc {idx : Nat} {c : Int32} {x : Int} (hc : Cond.constant M.1.cls idx c ∈ tblG) (hd : decode M.2.1 pc = .ok (.ldc idx, 2)) (hx : c = Int32.ofInt x := by decide) (k : G Γ M d B post u (pc + 2) L (vI x :: st) τ) : G Γ M d B post u pc L st τ := by
  intro p e R s m args below meth cd Q H locs ls C F hl hW hS
  subst hx
  exact lv_ldc C.1 C.2.1 C.2.2.2.1 (C.2.2.2.2.1 _ hc) hd (k p e R s m args below meth cd Q H locs ls C F hl hW hS)
theorem g_ldcw {idx : Nat} {c : Int32} {x : Int} (hc : Cond.constant M.1.cls idx c ∈ tblG) (hd : decode M.2.1 pc = .ok (.ldc_w idx, 3)) (hx : c = Int32.ofInt x := by decide) (k : G Γ M d B post u (pc + 3) L (vI x :: st) τ) : G Γ M d B post u pc L st τ := by
  intro p e R s m args below meth cd Q H locs ls C F hl hW hS
  subst hx
  exact lv_ldcw C.1 C.2.1 C.2.2.2.1 (C.2.2.2.2.1 _ hc) hd (k p e R s m args below meth cd Q H locs ls C F hl hW hS)
theorem g_ldc2 {idx : Nat} {c : Int64} {x : Int} (hc : Cond.constantLong M.1.cls idx c ∈ tblG) (hd : decode M.2.1 pc = .ok (.ldc2_w idx, 3)) (hx : c = Int64.ofInt x := by decide) (k : G Γ M d B post u (pc + 3) L (vL x :: st) τ) : G Γ M d B post u pc L st τ := by
  intro p e R s m args below meth cd Q H locs ls C F hl hW hS
  subst hx
  exact lv_ldc2 C.1 C.2.1 C.2.2.2.1 (C.2.2.2.2.1 _ hc) hd (k p e R s m args below meth cd Q H locs ls C F hl hW hS)
theorem g_ldcS {idx i : Nat} {tx : String} (hs : strL[i]? = some (idx, tx)) (ho : M.1.cls = "AskedIn$Text") (hd : decode M.2.1 pc = .ok (.ldc idx, 2)) (k : G Γ M d B post u (pc + 2) L (.ref (adK Γ i) :: st) τ) : G Γ M d B post u pc L st τ := by
  intro p e R s m args below meth cd Q H locs ls C F hl hW hS
  exact va_ldcS C.1 C.2.1 (own := "AskedIn$Text") (by rw [← ho]; exact C.2.2.2.1) (C.2.2.2.2.2.1.2.2.2.2.2.2.2.2.2.2.1 i _ hs) hd (k p e R s m args below meth cd Q H locs ls C F hl hW hS)
theorem g_iload_n {i : Fin 4} {x : Int} (hd : decode M.2.1 pc = .ok (.iload_n i, 1)) (hx : L[(i : Nat)]? = some (some (vI x))) (k : G Γ M d B post u (pc + 1) L (vI x :: st) τ) : G Γ M d B post u pc L st τ := by
  intro p e R s m args below meth cd Q H locs ls C F hl hW hS
  exact lv_iload_n C.1 C.2.1 hd rfl (hl.2.2 _ _ hx) (k p e R s m args below meth cd Q H locs ls C F hl hW hS)
theorem g_iload {i : Nat} {x : Int} (hd : decode M.2.1 pc = .ok (.iload i, 2)) (hx : L[i]? = some (some (vI x))) (k : G Γ M d B post u (pc + 2) L (vI x :: st) τ) : G Γ M d B post u pc L st τ := by
  intro p e R s m args below meth cd Q H locs ls C F hl hW hS
  exact lv_iload C.1 C.2.1 hd (hl.2.2 _ _ hx) (k p e R s m args below meth cd Q H locs ls C F hl hW hS)
theorem g_lload_n {i : Fin 4} {x : Int} (hd : decode M.2.1 pc = .ok (.lload_n i, 1)) (hx : L[(i : Nat)]? = some (some (vL x))) (k : G Γ M d B post u (pc + 1) L (vL x :: st) τ) : G Γ M d B post u pc L st τ := by
  intro p e R s m args below meth cd Q H locs ls C F hl hW hS
  exact lv_lload_n C.1 C.2.1 hd rfl (hl.2.2 _ _ hx) (k p e R s m args below meth cd Q H locs ls C F hl hW hS)
theorem g_lload {i : Nat} {x : Int} (hd : decode M.2.1 pc = .ok (.lload i, 2)) (hx : L[i]? = some (some (vL x))) (k : G Γ M d B post u (pc + 2) L (vL x :: st) τ) : G Γ M d B post u pc L st τ := by
  intro p e R s m args below meth cd Q H locs ls C F hl hW hS
  exact lv_lload C.1 C.2.1 hd (hl.2.2 _ _ hx) (k p e R s m args below meth cd Q H locs ls C F hl hW hS)
theorem g_aload_n {i : Fin 4} {x : Nat} (hd : decode M.2.1 pc = .ok (.aload_n i, 1)) (hx : L[(i : Nat)]? = some (some (.ref x))) (k : G Γ M d B post u (pc + 1) L (.ref x :: st) τ) : G Γ M d B post u pc L st τ := by
  intro p e R s m args below meth cd Q H locs ls C F hl hW hS
  exact lv_aload_n C.1 C.2.1 hd rfl (hl.2.2 _ _ hx) (k p e R s m args below meth cd Q H locs ls C F hl hW hS)
theorem g_aload {i : Nat} {x : Nat} (hd : decode M.2.1 pc = .ok (.aload i, 2)) (hx : L[i]? = some (some (.ref x))) (k : G Γ M d B post u (pc + 2) L (.ref x :: st) τ) : G Γ M d B post u pc L st τ := by
  intro p e R s m args below meth cd Q H locs ls C F hl hW hS
  exact lv_aload C.1 C.2.1 hd (hl.2.2 _ _ hx) (k p e R s m args below meth cd Q H locs ls C F hl hW hS)
theorem g_istore_n0 {i : Fin 4} {x : Int} (hd : decode M.2.1 pc = .ok (.istore_n i, 1)) (hi : (i : Nat) < M.2.2.1) (hp : prevOK L i) (k : G Γ M d B post u (pc + 1) (L.set i (some (vI x))) st τ) : G Γ M d B post u pc L (vI x :: st) τ := by
  intro p e R s m args below meth cd Q H locs ls C F hl hW hS
  exact lv_istore_n C.1 C.2.1 hd rfl (toL_has hl) hi rfl (fun ls' h' => (k p e R s m args below meth cd Q H locs ls' C F (lvD_store hp h') hW hS))
theorem g_istore0 {i : Nat} {x : Int} (hd : decode M.2.1 pc = .ok (.istore i, 2)) (hi : i < M.2.2.1) (hp : prevOK L i) (k : G Γ M d B post u (pc + 2) (L.set i (some (vI x))) st τ) : G Γ M d B post u pc L (vI x :: st) τ := by
  intro p e R s m args below meth cd Q H locs ls C F hl hW hS
  exact lv_istore C.1 C.2.1 hd (toL_has hl) hi rfl (fun ls' h' => (k p e R s m args below meth cd Q H locs ls' C F (lvD_store hp h') hW hS))
theorem g_astore_n0 {i : Fin 4} {x : Nat} (hd : decode M.2.1 pc = .ok (.astore_n i, 1)) (hi : (i : Nat) < M.2.2.1) (hp : prevOK L i) (k : G Γ M d B post u (pc + 1) (L.set i (some (.ref x))) st τ) : G Γ M d B post u pc L (.ref x :: st) τ := by
  intro p e R s m args below meth cd Q H locs ls C F hl hW hS
  exact lv_astore_n C.1 C.2.1 hd rfl (toL_has hl) hi rfl (fun ls' h' => (k p e R s m args below meth cd Q H locs ls' C F (lvD_store hp h') hW hS))
theorem g_astore0 {i : Nat} {x : Nat} (hd : decode M.2.1 pc = .ok (.astore i, 2)) (hi : i < M.2.2.1) (hp : prevOK L i) (k : G Γ M d B post u (pc + 2) (L.set i (some (.ref x))) st τ) : G Γ M d B post u pc L (.ref x :: st) τ := by
  intro p e R s m args below meth cd Q H locs ls C F hl hW hS
  exact lv_astore C.1 C.2.1 hd (toL_has hl) hi rfl (fun ls' h' => (k p e R s m args below meth cd Q H locs ls' C F (lvD_store hp h') hW hS))
theorem g_lstore_n0 {i : Fin 4} {x : Int} (hd : decode M.2.1 pc = .ok (.lstore_n i, 1)) (hi : (i : Nat) + 1 < M.2.2.1) (hp : prevOK L i) (k : G Γ M d B post u (pc + 1) ((L.set i (some (vL x))).set (i + 1) none) st τ) : G Γ M d B post u pc L (vL x :: st) τ := by
  intro p e R s m args below meth cd Q H locs ls C F hl hW hS
  exact lv_lstore_n C.1 C.2.1 hd rfl (toL_has hl) hi rfl (fun ls' h' => (k p e R s m args below meth cd Q H locs ls' C F (lvD_storeL hp h') hW hS))
theorem g_lstore0 {i : Nat} {x : Int} (hd : decode M.2.1 pc = .ok (.lstore i, 2)) (hi : i + 1 < M.2.2.1) (hp : prevOK L i) (k : G Γ M d B post u (pc + 2) ((L.set i (some (vL x))).set (i + 1) none) st τ) : G Γ M d B post u pc L (vL x :: st) τ := by
  intro p e R s m args below meth cd Q H locs ls C F hl hW hS
  exact lv_lstore C.1 C.2.1 hd (toL_has hl) hi rfl (fun ls' h' => (k p e R s m args below meth cd Q H locs ls' C F (lvD_storeL hp h') hW hS))
theorem g_iinc0 {i : Nat} {a x : Int} (hd : decode M.2.1 pc = .ok (.iinc i a, 3)) (hi : i < M.2.2.1) (hx : L[i]? = some (some (vI x))) (hp : prevOK L i) (k : G Γ M d B post u (pc + 3) (L.set i (some (vI (x + a)))) st τ) : G Γ M d B post u pc L st τ := by
  intro p e R s m args below meth cd Q H locs ls C F hl hW hS
  obtain ⟨q, hq⟩ := List.getElem?_of_mem (toL_mem.mpr hx)
  exact lv_iinc C.1 C.2.1 hd (toL_has hl) hq (v := Int32.ofInt (x + a)) (by rw [Int32.ofInt_add]) hi rfl (fun ls' h' => k p e R s m args below meth cd Q H locs ls' C F (lvD_store hp h') hW hS)
theorem prev0 {L : List (Option Value)} : prevOK L 0 := fun j h => by omega
theorem okp_cat {w : Option Value} (h : okp w = true) : ∀ v, w = some v → v.category = 1 := by
  intro v e; subst e; simpa [okp] using h
theorem prevS {L : List (Option Value)} {i : Nat} {w : Option Value} (hw : L[i]? = some w) (h : okp w = true) : prevOK L (i + 1) := by
  intro j hj v hv
  have : j = i := by omega
  subst this
  rw [hw] at hv
  exact okp_cat h v (Option.some.inj hv)
theorem g_istore_0 {a0 : Option Value} {x : Int} (hd : decode M.2.1 pc = .ok (.istore_n 0, 1)) (hi : 0 < M.2.2.1 := by decide) (k : G Γ M d B post u (pc + 1) (some (vI x) :: L) st τ) : G Γ M d B post u pc (a0 :: L) (vI x :: st) τ := g_istore_n0 (i := 0) hd hi prev0 k
theorem g_istore_1 {a0 a1 : Option Value} {x : Int} (hd : decode M.2.1 pc = .ok (.istore_n 1, 1)) (hp : okp a0 = true := by rfl) (hi : 1 < M.2.2.1 := by decide) (k : G Γ M d B post u (pc + 1) (a0 :: some (vI x) :: L) st τ) : G Γ M d B post u pc (a0 :: a1 :: L) (vI x :: st) τ := g_istore_n0 (i := 1) hd hi (prevS (i := 0) rfl hp) k
theorem g_istore_2 {a0 a1 a2 : Option Value} {x : Int} (hd : decode M.2.1 pc = .ok (.istore_n 2, 1)) (hp : okp a1 = true := by rfl) (hi : 2 < M.2.2.1 := by decide) (k : G Γ M d B post u (pc + 1) (a0 :: a1 :: some (vI x) :: L) st τ) : G Γ M d B post u pc (a0 :: a1 :: a2 :: L) (vI x :: st) τ := g_istore_n0 (i := 2) hd hi (prevS (i := 1) rfl hp) k
theorem g_istore_3 {a0 a1 a2 a3 : Option Value} {x : Int} (hd : decode M.2.1 pc = .ok (.istore_n 3, 1)) (hp : okp a2 = true := by rfl) (hi : 3 < M.2.2.1 := by decide) (k : G Γ M d B post u (pc + 1) (a0 :: a1 :: a2 :: some (vI x) :: L) st τ) : G Γ M d B post u pc (a0 :: a1 :: a2 :: a3 :: L) (vI x :: st) τ := g_istore_n0 (i := 3) hd hi (prevS (i := 2) rfl hp) k
theorem g_istore_4 {a0 a1 a2 a3 a4 : Option Value} {x : Int} (hd : decode M.2.1 pc = .ok (.istore 4, 2)) (hp : okp a3 = true := by rfl) (hi : 4 < M.2.2.1 := by decide) (k : G Γ M d B post u (pc + 2) (a0 :: a1 :: a2 :: a3 :: some (vI x) :: L) st τ) : G Γ M d B post u pc (a0 :: a1 :: a2 :: a3 :: a4 :: L) (vI x :: st) τ := g_istore0 hd hi (prevS (i := 3) rfl hp) k
theorem g_istore_5 {a0 a1 a2 a3 a4 a5 : Option Value} {x : Int} (hd : decode M.2.1 pc = .ok (.istore 5, 2)) (hp : okp a4 = true := by rfl) (hi : 5 < M.2.2.1 := by decide) (k : G Γ M d B post u (pc + 2) (a0 :: a1 :: a2 :: a3 :: a4 :: some (vI x) :: L) st τ) : G Γ M d B post u pc (a0 :: a1 :: a2 :: a3 :: a4 :: a5 :: L) (vI x :: st) τ := g_istore0 hd hi (prevS (i := 4) rfl hp) k
theorem g_istore_6 {a0 a1 a2 a3 a4 a5 a6 : Option Value} {x : Int} (hd : decode M.2.1 pc = .ok (.istore 6, 2)) (hp : okp a5 = true := by rfl) (hi : 6 < M.2.2.1 := by decide) (k : G Γ M d B post u (pc + 2) (a0 :: a1 :: a2 :: a3 :: a4 :: a5 :: some (vI x) :: L) st τ) : G Γ M d B post u pc (a0 :: a1 :: a2 :: a3 :: a4 :: a5 :: a6 :: L) (vI x :: st) τ := g_istore0 hd hi (prevS (i := 5) rfl hp) k
theorem g_istore_7 {a0 a1 a2 a3 a4 a5 a6 a7 : Option Value} {x : Int} (hd : decode M.2.1 pc = .ok (.istore 7, 2)) (hp : okp a6 = true := by rfl) (hi : 7 < M.2.2.1 := by decide) (k : G Γ M d B post u (pc + 2) (a0 :: a1 :: a2 :: a3 :: a4 :: a5 :: a6 :: some (vI x) :: L) st τ) : G Γ M d B post u pc (a0 :: a1 :: a2 :: a3 :: a4 :: a5 :: a6 :: a7 :: L) (vI x :: st) τ := g_istore0 hd hi (prevS (i := 6) rfl hp) k
theorem g_istore_8 {a0 a1 a2 a3 a4 a5 a6 a7 a8 : Option Value} {x : Int} (hd : decode M.2.1 pc = .ok (.istore 8, 2)) (hp : okp a7 = true := by rfl) (hi : 8 < M.2.2.1 := by decide) (k : G Γ M d B post u (pc + 2) (a0 :: a1 :: a2 :: a3 :: a4 :: a5 :: a6 :: a7 :: some (vI x) :: L) st τ) : G Γ M d B post u pc (a0 :: a1 :: a2 :: a3 :: a4 :: a5 :: a6 :: a7 :: a8 :: L) (vI x :: st) τ := g_istore0 hd hi (prevS (i := 7) rfl hp) k
theorem g_istore_9 {a0 a1 a2 a3 a4 a5 a6 a7 a8 a9 : Option Value} {x : Int} (hd : decode M.2.1 pc = .ok (.istore 9, 2)) (hp : okp a8 = true := by rfl) (hi : 9 < M.2.2.1 := by decide) (k : G Γ M d B post u (pc + 2) (a0 :: a1 :: a2 :: a3 :: a4 :: a5 :: a6 :: a7 :: a8 :: some (vI x) :: L) st τ) : G Γ M d B post u pc (a0 :: a1 :: a2 :: a3 :: a4 :: a5 :: a6 :: a7 :: a8 :: a9 :: L) (vI x :: st) τ := g_istore0 hd hi (prevS (i := 8) rfl hp) k
theorem g_istore_10 {a0 a1 a2 a3 a4 a5 a6 a7 a8 a9 a10 : Option Value} {x : Int} (hd : decode M.2.1 pc = .ok (.istore 10, 2)) (hp : okp a9 = true := by rfl) (hi : 10 < M.2.2.1 := by decide) (k : G Γ M d B post u (pc + 2) (a0 :: a1 :: a2 :: a3 :: a4 :: a5 :: a6 :: a7 :: a8 :: a9 :: some (vI x) :: L) st τ) : G Γ M d B post u pc (a0 :: a1 :: a2 :: a3 :: a4 :: a5 :: a6 :: a7 :: a8 :: a9 :: a10 :: L) (vI x :: st) τ := g_istore0 hd hi (prevS (i := 9) rfl hp) k
theorem g_istore_11 {a0 a1 a2 a3 a4 a5 a6 a7 a8 a9 a10 a11 : Option Value} {x : Int} (hd : decode M.2.1 pc = .ok (.istore 11, 2)) (hp : okp a10 = true := by rfl) (hi : 11 < M.2.2.1 := by decide) (k : G Γ M d B post u (pc + 2) (a0 :: a1 :: a2 :: a3 :: a4 :: a5 :: a6 :: a7 :: a8 :: a9 :: a10 :: some (vI x) :: L) st τ) : G Γ M d B post u pc (a0 :: a1 :: a2 :: a3 :: a4 :: a5 :: a6 :: a7 :: a8 :: a9 :: a10 :: a11 :: L) (vI x :: st) τ := g_istore0 hd hi (prevS (i := 10) rfl hp) k
theorem g_istore_12 {a0 a1 a2 a3 a4 a5 a6 a7 a8 a9 a10 a11 a12 : Option Value} {x : Int} (hd : decode M.2.1 pc = .ok (.istore 12, 2)) (hp : okp a11 = true := by rfl) (hi : 12 < M.2.2.1 := by decide) (k : G Γ M d B post u (pc + 2) (a0 :: a1 :: a2 :: a3 :: a4 :: a5 :: a6 :: a7 :: a8 :: a9 :: a10 :: a11 :: some (vI x) :: L) st τ) : G Γ M d B post u pc (a0 :: a1 :: a2 :: a3 :: a4 :: a5 :: a6 :: a7 :: a8 :: a9 :: a10 :: a11 :: a12 :: L) (vI x :: st) τ := g_istore0 hd hi (prevS (i := 11) rfl hp) k
theorem g_astore_0 {a0 : Option Value} {x : Nat} (hd : decode M.2.1 pc = .ok (.astore_n 0, 1)) (hi : 0 < M.2.2.1 := by decide) (k : G Γ M d B post u (pc + 1) (some (.ref x) :: L) st τ) : G Γ M d B post u pc (a0 :: L) (.ref x :: st) τ := g_astore_n0 (i := 0) hd hi prev0 k
theorem g_astore_1 {a0 a1 : Option Value} {x : Nat} (hd : decode M.2.1 pc = .ok (.astore_n 1, 1)) (hp : okp a0 = true := by rfl) (hi : 1 < M.2.2.1 := by decide) (k : G Γ M d B post u (pc + 1) (a0 :: some (.ref x) :: L) st τ) : G Γ M d B post u pc (a0 :: a1 :: L) (.ref x :: st) τ := g_astore_n0 (i := 1) hd hi (prevS (i := 0) rfl hp) k
theorem g_astore_2 {a0 a1 a2 : Option Value} {x : Nat} (hd : decode M.2.1 pc = .ok (.astore_n 2, 1)) (hp : okp a1 = true := by rfl) (hi : 2 < M.2.2.1 := by decide) (k : G Γ M d B post u (pc + 1) (a0 :: a1 :: some (.ref x) :: L) st τ) : G Γ M d B post u pc (a0 :: a1 :: a2 :: L) (.ref x :: st) τ := g_astore_n0 (i := 2) hd hi (prevS (i := 1) rfl hp) k
theorem g_astore_3 {a0 a1 a2 a3 : Option Value} {x : Nat} (hd : decode M.2.1 pc = .ok (.astore_n 3, 1)) (hp : okp a2 = true := by rfl) (hi : 3 < M.2.2.1 := by decide) (k : G Γ M d B post u (pc + 1) (a0 :: a1 :: a2 :: some (.ref x) :: L) st τ) : G Γ M d B post u pc (a0 :: a1 :: a2 :: a3 :: L) (.ref x :: st) τ := g_astore_n0 (i := 3) hd hi (prevS (i := 2) rfl hp) k
theorem g_astore_4 {a0 a1 a2 a3 a4 : Option Value} {x : Nat} (hd : decode M.2.1 pc = .ok (.astore 4, 2)) (hp : okp a3 = true := by rfl) (hi : 4 < M.2.2.1 := by decide) (k : G Γ M d B post u (pc + 2) (a0 :: a1 :: a2 :: a3 :: some (.ref x) :: L) st τ) : G Γ M d B post u pc (a0 :: a1 :: a2 :: a3 :: a4 :: L) (.ref x :: st) τ := g_astore0 hd hi (prevS (i := 3) rfl hp) k
theorem g_astore_5 {a0 a1 a2 a3 a4 a5 : Option Value} {x : Nat} (hd : decode M.2.1 pc = .ok (.astore 5, 2)) (hp : okp a4 = true := by rfl) (hi : 5 < M.2.2.1 := by decide) (k : G Γ M d B post u (pc + 2) (a0 :: a1 :: a2 :: a3 :: a4 :: some (.ref x) :: L) st τ) : G Γ M d B post u pc (a0 :: a1 :: a2 :: a3 :: a4 :: a5 :: L) (.ref x :: st) τ := g_astore0 hd hi (prevS (i := 4) rfl hp) k
theorem g_astore_6 {a0 a1 a2 a3 a4 a5 a6 : Option Value} {x : Nat} (hd : decode M.2.1 pc = .ok (.astore 6, 2)) (hp : okp a5 = true := by rfl) (hi : 6 < M.2.2.1 := by decide) (k : G Γ M d B post u (pc + 2) (a0 :: a1 :: a2 :: a3 :: a4 :: a5 :: some (.ref x) :: L) st τ) : G Γ M d B post u pc (a0 :: a1 :: a2 :: a3 :: a4 :: a5 :: a6 :: L) (.ref x :: st) τ := g_astore0 hd hi (prevS (i := 5) rfl hp) k
theorem g_astore_7 {a0 a1 a2 a3 a4 a5 a6 a7 : Option Value} {x : Nat} (hd : decode M.2.1 pc = .ok (.astore 7, 2)) (hp : okp a6 = true := by rfl) (hi : 7 < M.2.2.1 := by decide) (k : G Γ M d B post u (pc + 2) (a0 :: a1 :: a2 :: a3 :: a4 :: a5 :: a6 :: some (.ref x) :: L) st τ) : G Γ M d B post u pc (a0 :: a1 :: a2 :: a3 :: a4 :: a5 :: a6 :: a7 :: L) (.ref x :: st) τ := g_astore0 hd hi (prevS (i := 6) rfl hp) k
theorem g_astore_8 {a0 a1 a2 a3 a4 a5 a6 a7 a8 : Option Value} {x : Nat} (hd : decode M.2.1 pc = .ok (.astore 8, 2)) (hp : okp a7 = true := by rfl) (hi : 8 < M.2.2.1 := by decide) (k : G Γ M d B post u (pc + 2) (a0 :: a1 :: a2 :: a3 :: a4 :: a5 :: a6 :: a7 :: some (.ref x) :: L) st τ) : G Γ M d B post u pc (a0 :: a1 :: a2 :: a3 :: a4 :: a5 :: a6 :: a7 :: a8 :: L) (.ref x :: st) τ := g_astore0 hd hi (prevS (i := 7) rfl hp) k
theorem g_astore_9 {a0 a1 a2 a3 a4 a5 a6 a7 a8 a9 : Option Value} {x : Nat} (hd : decode M.2.1 pc = .ok (.astore 9, 2)) (hp : okp a8 = true := by rfl) (hi : 9 < M.2.2.1 := by decide) (k : G Γ M d B post u (pc + 2) (a0 :: a1 :: a2 :: a3 :: a4 :: a5 :: a6 :: a7 :: a8 :: some (.ref x) :: L) st τ) : G Γ M d B post u pc (a0 :: a1 :: a2 :: a3 :: a4 :: a5 :: a6 :: a7 :: a8 :: a9 :: L) (.ref x :: st) τ := g_astore0 hd hi (prevS (i := 8) rfl hp) k
theorem g_astore_10 {a0 a1 a2 a3 a4 a5 a6 a7 a8 a9 a10 : Option Value} {x : Nat} (hd : decode M.2.1 pc = .ok (.astore 10, 2)) (hp : okp a9 = true := by rfl) (hi : 10 < M.2.2.1 := by decide) (k : G Γ M d B post u (pc + 2) (a0 :: a1 :: a2 :: a3 :: a4 :: a5 :: a6 :: a7 :: a8 :: a9 :: some (.ref x) :: L) st τ) : G Γ M d B post u pc (a0 :: a1 :: a2 :: a3 :: a4 :: a5 :: a6 :: a7 :: a8 :: a9 :: a10 :: L) (.ref x :: st) τ := g_astore0 hd hi (prevS (i := 9) rfl hp) k
theorem g_astore_11 {a0 a1 a2 a3 a4 a5 a6 a7 a8 a9 a10 a11 : Option Value} {x : Nat} (hd : decode M.2.1 pc = .ok (.astore 11, 2)) (hp : okp a10 = true := by rfl) (hi : 11 < M.2.2.1 := by decide) (k : G Γ M d B post u (pc + 2) (a0 :: a1 :: a2 :: a3 :: a4 :: a5 :: a6 :: a7 :: a8 :: a9 :: a10 :: some (.ref x) :: L) st τ) : G Γ M d B post u pc (a0 :: a1 :: a2 :: a3 :: a4 :: a5 :: a6 :: a7 :: a8 :: a9 :: a10 :: a11 :: L) (.ref x :: st) τ := g_astore0 hd hi (prevS (i := 10) rfl hp) k
theorem g_astore_12 {a0 a1 a2 a3 a4 a5 a6 a7 a8 a9 a10 a11 a12 : Option Value} {x : Nat} (hd : decode M.2.1 pc = .ok (.astore 12, 2)) (hp : okp a11 = true := by rfl) (hi : 12 < M.2.2.1 := by decide) (k : G Γ M d B post u (pc + 2) (a0 :: a1 :: a2 :: a3 :: a4 :: a5 :: a6 :: a7 :: a8 :: a9 :: a10 :: a11 :: some (.ref x) :: L) st τ) : G Γ M d B post u pc (a0 :: a1 :: a2 :: a3 :: a4 :: a5 :: a6 :: a7 :: a8 :: a9 :: a10 :: a11 :: a12 :: L) (.ref x :: st) τ := g_astore0 hd hi (prevS (i := 11) rfl hp) k
theorem g_iinc_0 {a x : Int} (hd : decode M.2.1 pc = .ok (.iinc 0 a, 3)) (hi : 0 < M.2.2.1 := by decide) (k : G Γ M d B post u (pc + 3) (some (vI (x + a)) :: L) st τ) : G Γ M d B post u pc (some (vI x) :: L) st τ := g_iinc0 hd hi rfl prev0 k
theorem g_iinc_1 {a0 : Option Value} {a x : Int} (hd : decode M.2.1 pc = .ok (.iinc 1 a, 3)) (hp : okp a0 = true := by rfl) (hi : 1 < M.2.2.1 := by decide) (k : G Γ M d B post u (pc + 3) (a0 :: some (vI (x + a)) :: L) st τ) : G Γ M d B post u pc (a0 :: some (vI x) :: L) st τ := g_iinc0 hd hi rfl (prevS (i := 0) rfl hp) k
theorem g_iinc_2 {a0 a1 : Option Value} {a x : Int} (hd : decode M.2.1 pc = .ok (.iinc 2 a, 3)) (hp : okp a1 = true := by rfl) (hi : 2 < M.2.2.1 := by decide) (k : G Γ M d B post u (pc + 3) (a0 :: a1 :: some (vI (x + a)) :: L) st τ) : G Γ M d B post u pc (a0 :: a1 :: some (vI x) :: L) st τ := g_iinc0 hd hi rfl (prevS (i := 1) rfl hp) k
theorem g_iinc_3 {a0 a1 a2 : Option Value} {a x : Int} (hd : decode M.2.1 pc = .ok (.iinc 3 a, 3)) (hp : okp a2 = true := by rfl) (hi : 3 < M.2.2.1 := by decide) (k : G Γ M d B post u (pc + 3) (a0 :: a1 :: a2 :: some (vI (x + a)) :: L) st τ) : G Γ M d B post u pc (a0 :: a1 :: a2 :: some (vI x) :: L) st τ := g_iinc0 hd hi rfl (prevS (i := 2) rfl hp) k
theorem g_iinc_4 {a0 a1 a2 a3 : Option Value} {a x : Int} (hd : decode M.2.1 pc = .ok (.iinc 4 a, 3)) (hp : okp a3 = true := by rfl) (hi : 4 < M.2.2.1 := by decide) (k : G Γ M d B post u (pc + 3) (a0 :: a1 :: a2 :: a3 :: some (vI (x + a)) :: L) st τ) : G Γ M d B post u pc (a0 :: a1 :: a2 :: a3 :: some (vI x) :: L) st τ := g_iinc0 hd hi rfl (prevS (i := 3) rfl hp) k
theorem g_iinc_5 {a0 a1 a2 a3 a4 : Option Value} {a x : Int} (hd : decode M.2.1 pc = .ok (.iinc 5 a, 3)) (hp : okp a4 = true := by rfl) (hi : 5 < M.2.2.1 := by decide) (k : G Γ M d B post u (pc + 3) (a0 :: a1 :: a2 :: a3 :: a4 :: some (vI (x + a)) :: L) st τ) : G Γ M d B post u pc (a0 :: a1 :: a2 :: a3 :: a4 :: some (vI x) :: L) st τ := g_iinc0 hd hi rfl (prevS (i := 4) rfl hp) k
theorem g_iinc_6 {a0 a1 a2 a3 a4 a5 : Option Value} {a x : Int} (hd : decode M.2.1 pc = .ok (.iinc 6 a, 3)) (hp : okp a5 = true := by rfl) (hi : 6 < M.2.2.1 := by decide) (k : G Γ M d B post u (pc + 3) (a0 :: a1 :: a2 :: a3 :: a4 :: a5 :: some (vI (x + a)) :: L) st τ) : G Γ M d B post u pc (a0 :: a1 :: a2 :: a3 :: a4 :: a5 :: some (vI x) :: L) st τ := g_iinc0 hd hi rfl (prevS (i := 5) rfl hp) k
theorem g_iinc_7 {a0 a1 a2 a3 a4 a5 a6 : Option Value} {a x : Int} (hd : decode M.2.1 pc = .ok (.iinc 7 a, 3)) (hp : okp a6 = true := by rfl) (hi : 7 < M.2.2.1 := by decide) (k : G Γ M d B post u (pc + 3) (a0 :: a1 :: a2 :: a3 :: a4 :: a5 :: a6 :: some (vI (x + a)) :: L) st τ) : G Γ M d B post u pc (a0 :: a1 :: a2 :: a3 :: a4 :: a5 :: a6 :: some (vI x) :: L) st τ := g_iinc0 hd hi rfl (prevS (i := 6) rfl hp) k
theorem g_iinc_8 {a0 a1 a2 a3 a4 a5 a6 a7 : Option Value} {a x : Int} (hd : decode M.2.1 pc = .ok (.iinc 8 a, 3)) (hp : okp a7 = true := by rfl) (hi : 8 < M.2.2.1 := by decide) (k : G Γ M d B post u (pc + 3) (a0 :: a1 :: a2 :: a3 :: a4 :: a5 :: a6 :: a7 :: some (vI (x + a)) :: L) st τ) : G Γ M d B post u pc (a0 :: a1 :: a2 :: a3 :: a4 :: a5 :: a6 :: a7 :: some (vI x) :: L) st τ := g_iinc0 hd hi rfl (prevS (i := 7) rfl hp) k
theorem g_iinc_9 {a0 a1 a2 a3 a4 a5 a6 a7 a8 : Option Value} {a x : Int} (hd : decode M.2.1 pc = .ok (.iinc 9 a, 3)) (hp : okp a8 = true := by rfl) (hi : 9 < M.2.2.1 := by decide) (k : G Γ M d B post u (pc + 3) (a0 :: a1 :: a2 :: a3 :: a4 :: a5 :: a6 :: a7 :: a8 :: some (vI (x + a)) :: L) st τ) : G Γ M d B post u pc (a0 :: a1 :: a2 :: a3 :: a4 :: a5 :: a6 :: a7 :: a8 :: some (vI x) :: L) st τ := g_iinc0 hd hi rfl (prevS (i := 8) rfl hp) k
theorem g_iinc_10 {a0 a1 a2 a3 a4 a5 a6 a7 a8 a9 : Option Value} {a x : Int} (hd : decode M.2.1 pc = .ok (.iinc 10 a, 3)) (hp : okp a9 = true := by rfl) (hi : 10 < M.2.2.1 := by decide) (k : G Γ M d B post u (pc + 3) (a0 :: a1 :: a2 :: a3 :: a4 :: a5 :: a6 :: a7 :: a8 :: a9 :: some (vI (x + a)) :: L) st τ) : G Γ M d B post u pc (a0 :: a1 :: a2 :: a3 :: a4 :: a5 :: a6 :: a7 :: a8 :: a9 :: some (vI x) :: L) st τ := g_iinc0 hd hi rfl (prevS (i := 9) rfl hp) k
theorem g_iinc_11 {a0 a1 a2 a3 a4 a5 a6 a7 a8 a9 a10 : Option Value} {a x : Int} (hd : decode M.2.1 pc = .ok (.iinc 11 a, 3)) (hp : okp a10 = true := by rfl) (hi : 11 < M.2.2.1 := by decide) (k : G Γ M d B post u (pc + 3) (a0 :: a1 :: a2 :: a3 :: a4 :: a5 :: a6 :: a7 :: a8 :: a9 :: a10 :: some (vI (x + a)) :: L) st τ) : G Γ M d B post u pc (a0 :: a1 :: a2 :: a3 :: a4 :: a5 :: a6 :: a7 :: a8 :: a9 :: a10 :: some (vI x) :: L) st τ := g_iinc0 hd hi rfl (prevS (i := 10) rfl hp) k
theorem g_iinc_12 {a0 a1 a2 a3 a4 a5 a6 a7 a8 a9 a10 a11 : Option Value} {a x : Int} (hd : decode M.2.1 pc = .ok (.iinc 12 a, 3)) (hp : okp a11 = true := by rfl) (hi : 12 < M.2.2.1 := by decide) (k : G Γ M d B post u (pc + 3) (a0 :: a1 :: a2 :: a3 :: a4 :: a5 :: a6 :: a7 :: a8 :: a9 :: a10 :: a11 :: some (vI (x + a)) :: L) st τ) : G Γ M d B post u pc (a0 :: a1 :: a2 :: a3 :: a4 :: a5 :: a6 :: a7 :: a8 :: a9 :: a10 :: a11 :: some (vI x) :: L) st τ := g_iinc0 hd hi rfl (prevS (i := 11) rfl hp) k
theorem g_lstore_0 {a0 b : Option Value} {x : Int} (hd : decode M.2.1 pc = .ok (.lstore_n 0, 1)) (hi : 0 + 1 < M.2.2.1 := by decide) (k : G Γ M d B post u (pc + 1) (some (vL x) :: none :: L) st τ) : G Γ M d B post u pc (a0 :: b :: L) (vL x :: st) τ := g_lstore_n0 (i := 0) hd hi prev0 k
theorem g_lstore_1 {a0 a1 b : Option Value} {x : Int} (hd : decode M.2.1 pc = .ok (.lstore_n 1, 1)) (hp : okp a0 = true := by rfl) (hi : 1 + 1 < M.2.2.1 := by decide) (k : G Γ M d B post u (pc + 1) (a0 :: some (vL x) :: none :: L) st τ) : G Γ M d B post u pc (a0 :: a1 :: b :: L) (vL x :: st) τ := g_lstore_n0 (i := 1) hd hi (prevS (i := 0) rfl hp) k
theorem g_lstore_2 {a0 a1 a2 b : Option Value} {x : Int} (hd : decode M.2.1 pc = .ok (.lstore_n 2, 1)) (hp : okp a1 = true := by rfl) (hi : 2 + 1 < M.2.2.1 := by decide) (k : G Γ M d B post u (pc + 1) (a0 :: a1 :: some (vL x) :: none :: L) st τ) : G Γ M d B post u pc (a0 :: a1 :: a2 :: b :: L) (vL x :: st) τ := g_lstore_n0 (i := 2) hd hi (prevS (i := 1) rfl hp) k
theorem g_lstore_3 {a0 a1 a2 a3 b : Option Value} {x : Int} (hd : decode M.2.1 pc = .ok (.lstore_n 3, 1)) (hp : okp a2 = true := by rfl) (hi : 3 + 1 < M.2.2.1 := by decide) (k : G Γ M d B post u (pc + 1) (a0 :: a1 :: a2 :: some (vL x) :: none :: L) st τ) : G Γ M d B post u pc (a0 :: a1 :: a2 :: a3 :: b :: L) (vL x :: st) τ := g_lstore_n0 (i := 3) hd hi (prevS (i := 2) rfl hp) k
theorem g_lstore_4 {a0 a1 a2 a3 a4 b : Option Value} {x : Int} (hd : decode M.2.1 pc = .ok (.lstore 4, 2)) (hp : okp a3 = true := by rfl) (hi : 4 + 1 < M.2.2.1 := by decide) (k : G Γ M d B post u (pc + 2) (a0 :: a1 :: a2 :: a3 :: some (vL x) :: none :: L) st τ) : G Γ M d B post u pc (a0 :: a1 :: a2 :: a3 :: a4 :: b :: L) (vL x :: st) τ := g_lstore0 hd hi (prevS (i := 3) rfl hp) k
theorem g_lstore_5 {a0 a1 a2 a3 a4 a5 b : Option Value} {x : Int} (hd : decode M.2.1 pc = .ok (.lstore 5, 2)) (hp : okp a4 = true := by rfl) (hi : 5 + 1 < M.2.2.1 := by decide) (k : G Γ M d B post u (pc + 2) (a0 :: a1 :: a2 :: a3 :: a4 :: some (vL x) :: none :: L) st τ) : G Γ M d B post u pc (a0 :: a1 :: a2 :: a3 :: a4 :: a5 :: b :: L) (vL x :: st) τ := g_lstore0 hd hi (prevS (i := 4) rfl hp) k
theorem g_lstore_6 {a0 a1 a2 a3 a4 a5 a6 b : Option Value} {x : Int} (hd : decode M.2.1 pc = .ok (.lstore 6, 2)) (hp : okp a5 = true := by rfl) (hi : 6 + 1 < M.2.2.1 := by decide) (k : G Γ M d B post u (pc + 2) (a0 :: a1 :: a2 :: a3 :: a4 :: a5 :: some (vL x) :: none :: L) st τ) : G Γ M d B post u pc (a0 :: a1 :: a2 :: a3 :: a4 :: a5 :: a6 :: b :: L) (vL x :: st) τ := g_lstore0 hd hi (prevS (i := 5) rfl hp) k
theorem g_lstore_7 {a0 a1 a2 a3 a4 a5 a6 a7 b : Option Value} {x : Int} (hd : decode M.2.1 pc = .ok (.lstore 7, 2)) (hp : okp a6 = true := by rfl) (hi : 7 + 1 < M.2.2.1 := by decide) (k : G Γ M d B post u (pc + 2) (a0 :: a1 :: a2 :: a3 :: a4 :: a5 :: a6 :: some (vL x) :: none :: L) st τ) : G Γ M d B post u pc (a0 :: a1 :: a2 :: a3 :: a4 :: a5 :: a6 :: a7 :: b :: L) (vL x :: st) τ := g_lstore0 hd hi (prevS (i := 6) rfl hp) k
theorem g_lstore_8 {a0 a1 a2 a3 a4 a5 a6 a7 a8 b : Option Value} {x : Int} (hd : decode M.2.1 pc = .ok (.lstore 8, 2)) (hp : okp a7 = true := by rfl) (hi : 8 + 1 < M.2.2.1 := by decide) (k : G Γ M d B post u (pc + 2) (a0 :: a1 :: a2 :: a3 :: a4 :: a5 :: a6 :: a7 :: some (vL x) :: none :: L) st τ) : G Γ M d B post u pc (a0 :: a1 :: a2 :: a3 :: a4 :: a5 :: a6 :: a7 :: a8 :: b :: L) (vL x :: st) τ := g_lstore0 hd hi (prevS (i := 7) rfl hp) k
theorem g_lstore_9 {a0 a1 a2 a3 a4 a5 a6 a7 a8 a9 b : Option Value} {x : Int} (hd : decode M.2.1 pc = .ok (.lstore 9, 2)) (hp : okp a8 = true := by rfl) (hi : 9 + 1 < M.2.2.1 := by decide) (k : G Γ M d B post u (pc + 2) (a0 :: a1 :: a2 :: a3 :: a4 :: a5 :: a6 :: a7 :: a8 :: some (vL x) :: none :: L) st τ) : G Γ M d B post u pc (a0 :: a1 :: a2 :: a3 :: a4 :: a5 :: a6 :: a7 :: a8 :: a9 :: b :: L) (vL x :: st) τ := g_lstore0 hd hi (prevS (i := 8) rfl hp) k
theorem g_lstore_10 {a0 a1 a2 a3 a4 a5 a6 a7 a8 a9 a10 b : Option Value} {x : Int} (hd : decode M.2.1 pc = .ok (.lstore 10, 2)) (hp : okp a9 = true := by rfl) (hi : 10 + 1 < M.2.2.1 := by decide) (k : G Γ M d B post u (pc + 2) (a0 :: a1 :: a2 :: a3 :: a4 :: a5 :: a6 :: a7 :: a8 :: a9 :: some (vL x) :: none :: L) st τ) : G Γ M d B post u pc (a0 :: a1 :: a2 :: a3 :: a4 :: a5 :: a6 :: a7 :: a8 :: a9 :: a10 :: b :: L) (vL x :: st) τ := g_lstore0 hd hi (prevS (i := 9) rfl hp) k
theorem g_lstore_11 {a0 a1 a2 a3 a4 a5 a6 a7 a8 a9 a10 a11 b : Option Value} {x : Int} (hd : decode M.2.1 pc = .ok (.lstore 11, 2)) (hp : okp a10 = true := by rfl) (hi : 11 + 1 < M.2.2.1 := by decide) (k : G Γ M d B post u (pc + 2) (a0 :: a1 :: a2 :: a3 :: a4 :: a5 :: a6 :: a7 :: a8 :: a9 :: a10 :: some (vL x) :: none :: L) st τ) : G Γ M d B post u pc (a0 :: a1 :: a2 :: a3 :: a4 :: a5 :: a6 :: a7 :: a8 :: a9 :: a10 :: a11 :: b :: L) (vL x :: st) τ := g_lstore0 hd hi (prevS (i := 10) rfl hp) k
theorem g_iadd {a b : Int} (hd : decode M.2.1 pc = .ok (.iadd, 1)) (k : G Γ M d B post u (pc + 1) L (vI (a + b) :: st) τ) : G Γ M d B post u pc L (vI b :: vI a :: st) τ := by
  intro p e R s m args below meth cd Q H locs ls C F hl hW hS
  refine lv_iadd C.1 C.2.1 hd ?_
  rw [← Int32.ofInt_add]
  exact k p e R s m args below meth cd Q H locs ls C F hl hW hS
theorem g_isub {a b : Int} (hd : decode M.2.1 pc = .ok (.isub, 1)) (k : G Γ M d B post u (pc + 1) L (vI (a - b) :: st) τ) : G Γ M d B post u pc L (vI b :: vI a :: st) τ := by
  intro p e R s m args below meth cd Q H locs ls C F hl hW hS
  refine lv_isub C.1 C.2.1 hd ?_
  rw [← Int32.ofInt_sub]
  exact k p e R s m args below meth cd Q H locs ls C F hl hW hS
theorem g_imul {a b : Int} (hd : decode M.2.1 pc = .ok (.imul, 1)) (k : G Γ M d B post u (pc + 1) L (vI (a * b) :: st) τ) : G Γ M d B post u pc L (vI b :: vI a :: st) τ := by
  intro p e R s m args below meth cd Q H locs ls C F hl hW hS
  refine lv_imul C.1 C.2.1 hd ?_
  rw [← Int32.ofInt_mul]
  exact k p e R s m args below meth cd Q H locs ls C F hl hW hS
theorem g_ineg {a : Int} (hd : decode M.2.1 pc = .ok (.ineg, 1)) (k : G Γ M d B post u (pc + 1) L (vI (-a) :: st) τ) : G Γ M d B post u pc L (vI a :: st) τ := by
  intro p e R s m args below meth cd Q H locs ls C F hl hW hS
  refine lv_ineg C.1 C.2.1 hd ?_
  rw [← Int32.ofInt_neg]
  exact k p e R s m args below meth cd Q H locs ls C F hl hW hS
theorem g_iand {a b : Int} (hd : decode M.2.1 pc = .ok (.iand, 1)) (k : G Γ M d B post u (pc + 1) L (vI (zand a b) :: st) τ) : G Γ M d B post u pc L (vI b :: vI a :: st) τ := by
  intro p e R s m args below meth cd Q H locs ls C F hl hW hS
  refine lv_iand C.1 C.2.1 hd ?_
  have h := (k p e R s m args below meth cd Q H locs ls C F hl hW hS)
  unfold vI zand at h
  rwa [Int32.ofInt_toInt] at h
theorem g_ior {a b : Int} (hd : decode M.2.1 pc = .ok (.ior, 1)) (k : G Γ M d B post u (pc + 1) L (vI (zor a b) :: st) τ) : G Γ M d B post u pc L (vI b :: vI a :: st) τ := by
  intro p e R s m args below meth cd Q H locs ls C F hl hW hS
  refine lv_ior C.1 C.2.1 hd ?_
  have h := (k p e R s m args below meth cd Q H locs ls C F hl hW hS)
  unfold vI zor at h
  rwa [Int32.ofInt_toInt] at h
theorem g_ixor {a b : Int} (hd : decode M.2.1 pc = .ok (.ixor, 1)) (k : G Γ M d B post u (pc + 1) L (vI (zxor a b) :: st) τ) : G Γ M d B post u pc L (vI b :: vI a :: st) τ := by
  intro p e R s m args below meth cd Q H locs ls C F hl hW hS
  refine lv_ixor C.1 C.2.1 hd ?_
  have h := (k p e R s m args below meth cd Q H locs ls C F hl hW hS)
  unfold vI zxor at h
  rwa [Int32.ofInt_toInt] at h
theorem g_ishl {a b : Int} (hd : decode M.2.1 pc = .ok (.ishl, 1)) (k : G Γ M d B post u (pc + 1) L (vI (zshl a b) :: st) τ) : G Γ M d B post u pc L (vI b :: vI a :: st) τ := by
  intro p e R s m args below meth cd Q H locs ls C F hl hW hS
  refine lv_ishl C.1 C.2.1 hd ?_
  have h := (k p e R s m args below meth cd Q H locs ls C F hl hW hS)
  unfold vI zshl at h
  rwa [Int32.ofInt_toInt] at h
theorem g_ishr {a b : Int} (hd : decode M.2.1 pc = .ok (.ishr, 1)) (k : G Γ M d B post u (pc + 1) L (vI (zshr a b) :: st) τ) : G Γ M d B post u pc L (vI b :: vI a :: st) τ := by
  intro p e R s m args below meth cd Q H locs ls C F hl hW hS
  refine lv_ishr C.1 C.2.1 hd ?_
  have h := (k p e R s m args below meth cd Q H locs ls C F hl hW hS)
  unfold vI zshr at h
  rwa [Int32.ofInt_toInt] at h
theorem g_iushr {a b : Int} (hd : decode M.2.1 pc = .ok (.iushr, 1)) (k : G Γ M d B post u (pc + 1) L (vI (zushr a b) :: st) τ) : G Γ M d B post u pc L (vI b :: vI a :: st) τ := by
  intro p e R s m args below meth cd Q H locs ls C F hl hW hS
  refine lv_iushr C.1 C.2.1 hd rfl ?_
  have h := (k p e R s m args below meth cd Q H locs ls C F hl hW hS)
  unfold vI zushr at h
  rwa [Int32.ofInt_toInt] at h
theorem g_i2b {a : Int} (hd : decode M.2.1 pc = .ok (.i2b, 1)) (k : G Γ M d B post u (pc + 1) L (vI (zi2b a) :: st) τ) : G Γ M d B post u pc L (vI a :: st) τ := by
  intro p e R s m args below meth cd Q H locs ls C F hl hW hS
  refine lv_i2b C.1 C.2.1 hd rfl ?_
  have h := (k p e R s m args below meth cd Q H locs ls C F hl hW hS)
  unfold vI zi2b at h
  rwa [Int32.ofInt_toInt] at h
theorem g_i2s {a : Int} (hd : decode M.2.1 pc = .ok (.i2s, 1)) (k : G Γ M d B post u (pc + 1) L (vI (zi2s a) :: st) τ) : G Γ M d B post u pc L (vI a :: st) τ := by
  intro p e R s m args below meth cd Q H locs ls C F hl hW hS
  refine lv_i2s C.1 C.2.1 hd rfl ?_
  have h := (k p e R s m args below meth cd Q H locs ls C F hl hW hS)
  unfold vI zi2s at h
  rwa [Int32.ofInt_toInt] at h
theorem g_i2c {a : Int} (hd : decode M.2.1 pc = .ok (.i2c, 1)) (k : G Γ M d B post u (pc + 1) L (vI (zi2c a) :: st) τ) : G Γ M d B post u pc L (vI a :: st) τ := by
  intro p e R s m args below meth cd Q H locs ls C F hl hW hS
  refine lv_i2c C.1 C.2.1 hd rfl ?_
  have h := (k p e R s m args below meth cd Q H locs ls C F hl hW hS)
  unfold vI zi2c at h
  rwa [Int32.ofInt_toInt] at h
theorem g_l2i {a : Int} (hd : decode M.2.1 pc = .ok (.l2i, 1)) (k : G Γ M d B post u (pc + 1) L (vI (zl2i a) :: st) τ) : G Γ M d B post u pc L (vL a :: st) τ := by
  intro p e R s m args below meth cd Q H locs ls C F hl hW hS
  refine lv_l2i C.1 C.2.1 hd rfl ?_
  have h := (k p e R s m args below meth cd Q H locs ls C F hl hW hS)
  unfold vI zl2i at h
  rwa [Int32.ofInt_toInt] at h
theorem g_i2l {a : Int} (ha : R32 a) (hd : decode M.2.1 pc = .ok (.i2l, 1)) (k : G Γ M d B post u (pc + 1) L (vL a :: st) τ) : G Γ M d B post u pc L (vI a :: st) τ := by
  intro p e R s m args below meth cd Q H locs ls C F hl hW hS
  refine lv_i2l C.1 C.2.1 hd (v := Int64.ofInt a) (Int32.toInt64_ofInt (by rw [z_mn]; omega) (by rw [z_mx]; omega)) ?_
  exact (k p e R s m args below meth cd Q H locs ls C F hl hW hS)
theorem g_lshl {a b : Int} (hd : decode M.2.1 pc = .ok (.lshl, 1)) (k : G Γ M d B post u (pc + 1) L (vL (zlshl a b) :: st) τ) : G Γ M d B post u pc L (vI b :: vL a :: st) τ := by
  intro p e R s m args below meth cd Q H locs ls C F hl hW hS
  refine lv_lshl C.1 C.2.1 hd rfl ?_
  have h := (k p e R s m args below meth cd Q H locs ls C F hl hW hS)
  unfold vL zlshl at h
  rwa [Int64.ofInt_toInt] at h
theorem g_land {a b : Int} (hd : decode M.2.1 pc = .ok (.land, 1)) (k : G Γ M d B post u (pc + 1) L (vL (zland a b) :: st) τ) : G Γ M d B post u pc L (vL b :: vL a :: st) τ := by
  intro p e R s m args below meth cd Q H locs ls C F hl hW hS
  refine lv_land C.1 C.2.1 hd ?_
  have h := (k p e R s m args below meth cd Q H locs ls C F hl hW hS)
  unfold vL zland at h
  rwa [Int64.ofInt_toInt] at h
theorem g_lor {a b : Int} (hd : decode M.2.1 pc = .ok (.lor, 1)) (k : G Γ M d B post u (pc + 1) L (vL (zlor a b) :: st) τ) : G Γ M d B post u pc L (vL b :: vL a :: st) τ := by
  intro p e R s m args below meth cd Q H locs ls C F hl hW hS
  refine lv_lor C.1 C.2.1 hd ?_
  have h := (k p e R s m args below meth cd Q H locs ls C F hl hW hS)
  unfold vL zlor at h
  rwa [Int64.ofInt_toInt] at h
theorem g_idiv {a b : Int} (ha : R32 a) (hb : R32 b) (hn : b ≠ 0) (hd : decode M.2.1 pc = .ok (.idiv, 1)) (k : G Γ M d B post u (pc + 1) L (vI (a.tdiv b) :: st) τ) : G Γ M d B post u pc L (vI b :: vI a :: st) τ := by
  intro p e R s m args below meth cd Q H locs ls C F hl hW hS
  refine lv_idiv C.1 C.2.1 hd (fun q => hn ((z_eq hb (by omega)).mp q)) ?_
  have h := (k p e R s m args below meth cd Q H locs ls C F hl hW hS)
  unfold vI at h
  rwa [Int32.ofInt_tdiv (by rw [z_mn]; omega) (by rw [z_mx]; omega) (by rw [z_mn]; omega) (by rw [z_mx]; omega)] at h
theorem g_irem {a b : Int} (ha : R32 a) (hb : R32 b) (hn : b ≠ 0) (hd : decode M.2.1 pc = .ok (.irem, 1)) (k : G Γ M d B post u (pc + 1) L (vI (a.tmod b) :: st) τ) : G Γ M d B post u pc L (vI b :: vI a :: st) τ := by
  intro p e R s m args below meth cd Q H locs ls C F hl hW hS
  refine lv_irem C.1 C.2.1 hd (fun q => hn ((z_eq hb (by omega)).mp q)) ?_
  have h := (k p e R s m args below meth cd Q H locs ls C F hl hW hS)
  unfold vI at h
  rwa [Int.tmod_def, Int32.ofInt_sub, Int32.ofInt_mul, Int32.ofInt_tdiv (by rw [z_mn]; omega) (by rw [z_mx]; omega) (by rw [z_mn]; omega) (by rw [z_mx]; omega), Int32.mul_comm] at h
theorem g_ldiv {a b : Int} (ha : R64 a) (hb : R64 b) (hn : b ≠ 0) (hd : decode M.2.1 pc = .ok (.ldiv, 1)) (k : G Γ M d B post u (pc + 1) L (vL (a.tdiv b) :: st) τ) : G Γ M d B post u pc L (vL b :: vL a :: st) τ := by
  intro p e R s m args below meth cd Q H locs ls C F hl hW hS
  refine lv_ldiv C.1 C.2.1 hd (fun q => hn ((z_eqL hb (by omega)).mp q)) ?_
  have h := (k p e R s m args below meth cd Q H locs ls C F hl hW hS)
  unfold vL at h
  have e1 : Int64.maxValue.toInt = 9223372036854775807 := by decide
  have e2 : Int64.minValue.toInt = -9223372036854775808 := by decide
  rwa [Int64.ofInt_tdiv (by omega) (by omega) (by omega) (by omega)] at h
theorem g_lrem {a b : Int} (ha : R64 a) (hb : R64 b) (hn : b ≠ 0) (hd : decode M.2.1 pc = .ok (.lrem, 1)) (k : G Γ M d B post u (pc + 1) L (vL (a.tmod b) :: st) τ) : G Γ M d B post u pc L (vL b :: vL a :: st) τ := by
  intro p e R s m args below meth cd Q H locs ls C F hl hW hS
  refine lv_lrem C.1 C.2.1 hd (fun q => hn ((z_eqL hb (by omega)).mp q)) ?_
  have h := (k p e R s m args below meth cd Q H locs ls C F hl hW hS)
  unfold vL at h
  have e1 : Int64.maxValue.toInt = 9223372036854775807 := by decide
  have e2 : Int64.minValue.toInt = -9223372036854775808 := by decide
  rwa [Int.tmod_def, Int64.ofInt_sub, Int64.ofInt_mul, Int64.ofInt_tdiv (by omega) (by omega) (by omega) (by omega), Int64.mul_comm] at h
theorem g_lcmp {a b : Int} (ha : R64 a) (hb : R64 b) (hd : decode M.2.1 pc = .ok (.lcmp, 1)) (k : G Γ M d B post u (pc + 1) L (vI (if b < a then 1 else if a = b then 0 else -1) :: st) τ) : G Γ M d B post u pc L (vL b :: vL a :: st) τ := by
  intro p e R s m args below meth cd Q H locs ls C F hl hW hS
  refine W.lcmp C.1 C.2.1 hd ?_
  have h := (k p e R s m args below meth cd Q H locs ls C F hl hW hS)
  have e : Int32.ofInt (if b < a then 1 else if a = b then 0 else -1) = lg_cmp (Int64.ofInt a) (Int64.ofInt b) := by
    unfold lg_cmp
    simp only [gt_iff_lt, z_ltL hb ha, z_eqL ha hb]
    split
    · rfl
    · split <;> rfl
  unfold vI at h
  rwa [e] at h
theorem g_dupI {a : Int} (hd : decode M.2.1 pc = .ok (.dup, 1)) (k : G Γ M d B post u (pc + 1) L (vI a :: vI a :: st) τ) : G Γ M d B post u pc L (vI a :: st) τ := by
  intro p e R s m args below meth cd Q H locs ls C F hl hW hS
  exact lv_dup C.1 C.2.1 hd rfl (k p e R s m args below meth cd Q H locs ls C F hl hW hS)
theorem g_dupR {a : Nat} (hd : decode M.2.1 pc = .ok (.dup, 1)) (k : G Γ M d B post u (pc + 1) L (.ref a :: .ref a :: st) τ) : G Γ M d B post u pc L (.ref a :: st) τ := by
  intro p e R s m args below meth cd Q H locs ls C F hl hW hS
  exact lv_dup C.1 C.2.1 hd rfl (k p e R s m args below meth cd Q H locs ls C F hl hW hS)
theorem g_popI {a : Int} (hd : decode M.2.1 pc = .ok (.pop, 1)) (k : G Γ M d B post u (pc + 1) L st τ) : G Γ M d B post u pc L (vI a :: st) τ := by
  intro p e R s m args below meth cd Q H locs ls C F hl hW hS
  exact lv_pop C.1 C.2.1 hd rfl (k p e R s m args below meth cd Q H locs ls C F hl hW hS)
theorem g_pop2L {a : Int} (hd : decode M.2.1 pc = .ok (.pop2, 1)) (k : G Γ M d B post u (pc + 1) L st τ) : G Γ M d B post u pc L (vL a :: st) τ := by
  intro p e R s m args below meth cd Q H locs ls C F hl hW hS
  exact lv_pop2_2 C.1 C.2.1 hd rfl (k p e R s m args below meth cd Q H locs ls C F hl hW hS)
theorem g_goto {off : Int} {tgt : Nat} (hd : decode M.2.1 pc = .ok (.goto off, 3)) (ht : (pc : Int) + off = (tgt : Int) := by decide) (k : G Γ M d B post u tgt L st τ) : G Γ M d B post u pc L st τ := by
  intro p e R s m args below meth cd Q H locs ls C F hl hW hS
  exact lv_goto C.1 C.2.1 hd ht (k p e R s m args below meth cd Q H locs ls C F hl hW hS)
theorem g_icmp_eq {a b off : Int} {tgt : Nat} (ha : R32 a) (hb : R32 b) (hd : decode M.2.1 pc = .ok (.if_icmp .eq off, 3)) (ht : (pc : Int) + off = (tgt : Int) := by decide) (k1 : a = b → G Γ M d B post u tgt L st τ) (k2 : a ≠ b → G Γ M d B post u (pc + 3) L st τ) : G Γ M d B post u pc L (vI b :: vI a :: st) τ := by
  intro p e R s m args below meth cd Q H locs ls C F hl hW hS
  exact lv_icmp_eq C.1 C.2.1 hd ht (fun q => k1 ((z_eq ha hb).mp q) p e R s m args below meth cd Q H locs ls C F hl hW hS) (fun q => k2 (fun z => q ((z_eq ha hb).mpr z)) p e R s m args below meth cd Q H locs ls C F hl hW hS)
theorem g_if_eq {a off : Int} {tgt : Nat} (ha : R32 a) (hd : decode M.2.1 pc = .ok (.ifCond .eq off, 3)) (ht : (pc : Int) + off = (tgt : Int) := by decide) (k1 : a = 0 → G Γ M d B post u tgt L st τ) (k2 : a ≠ 0 → G Γ M d B post u (pc + 3) L st τ) : G Γ M d B post u pc L (vI a :: st) τ := by
  intro p e R s m args below meth cd Q H locs ls C F hl hW hS
  have hb : R32 0 := by omega
  exact lv_if_eq C.1 C.2.1 hd ht (fun q => k1 ((z_eq ha hb).mp q) p e R s m args below meth cd Q H locs ls C F hl hW hS) (fun q => k2 (fun z => q ((z_eq ha hb).mpr z)) p e R s m args below meth cd Q H locs ls C F hl hW hS)
theorem g_icmp_ne {a b off : Int} {tgt : Nat} (ha : R32 a) (hb : R32 b) (hd : decode M.2.1 pc = .ok (.if_icmp .ne off, 3)) (ht : (pc : Int) + off = (tgt : Int) := by decide) (k1 : a ≠ b → G Γ M d B post u tgt L st τ) (k2 : a = b → G Γ M d B post u (pc + 3) L st τ) : G Γ M d B post u pc L (vI b :: vI a :: st) τ := by
  intro p e R s m args below meth cd Q H locs ls C F hl hW hS
  exact lv_icmp_ne C.1 C.2.1 hd ht (fun q => k1 (fun z => q ((z_eq ha hb).mpr z)) p e R s m args below meth cd Q H locs ls C F hl hW hS) (fun q => k2 ((z_eq ha hb).mp q) p e R s m args below meth cd Q H locs ls C F hl hW hS)
theorem g_if_ne {a off : Int} {tgt : Nat} (ha : R32 a) (hd : decode M.2.1 pc = .ok (.ifCond .ne off, 3)) (ht : (pc : Int) + off = (tgt : Int) := by decide) (k1 : a ≠ 0 → G Γ M d B post u tgt L st τ) (k2 : a = 0 → G Γ M d B post u (pc + 3) L st τ) : G Γ M d B post u pc L (vI a :: st) τ := by
  intro p e R s m args below meth cd Q H locs ls C F hl hW hS
  have hb : R32 0 := by omega
  exact lv_if_ne C.1 C.2.1 hd ht (fun q => k1 (fun z => q ((z_eq ha hb).mpr z)) p e R s m args below meth cd Q H locs ls C F hl hW hS) (fun q => k2 ((z_eq ha hb).mp q) p e R s m args below meth cd Q H locs ls C F hl hW hS)
theorem g_icmp_lt {a b off : Int} {tgt : Nat} (ha : R32 a) (hb : R32 b) (hd : decode M.2.1 pc = .ok (.if_icmp .lt off, 3)) (ht : (pc : Int) + off = (tgt : Int) := by decide) (k1 : a < b → G Γ M d B post u tgt L st τ) (k2 : b ≤ a → G Γ M d B post u (pc + 3) L st τ) : G Γ M d B post u pc L (vI b :: vI a :: st) τ := by
  intro p e R s m args below meth cd Q H locs ls C F hl hW hS
  exact lv_icmp_lt C.1 C.2.1 hd ht (fun q => k1 ((z_lt ha hb).mp q) p e R s m args below meth cd Q H locs ls C F hl hW hS) (fun q => k2 (Int.not_lt.mp (fun z => q ((z_lt ha hb).mpr z))) p e R s m args below meth cd Q H locs ls C F hl hW hS)
theorem g_if_lt {a off : Int} {tgt : Nat} (ha : R32 a) (hd : decode M.2.1 pc = .ok (.ifCond .lt off, 3)) (ht : (pc : Int) + off = (tgt : Int) := by decide) (k1 : a < 0 → G Γ M d B post u tgt L st τ) (k2 : 0 ≤ a → G Γ M d B post u (pc + 3) L st τ) : G Γ M d B post u pc L (vI a :: st) τ := by
  intro p e R s m args below meth cd Q H locs ls C F hl hW hS
  have hb : R32 0 := by omega
  exact lv_if_lt C.1 C.2.1 hd ht (fun q => k1 ((z_lt ha hb).mp q) p e R s m args below meth cd Q H locs ls C F hl hW hS) (fun q => k2 (Int.not_lt.mp (fun z => q ((z_lt ha hb).mpr z))) p e R s m args below meth cd Q H locs ls C F hl hW hS)
theorem g_icmp_ge {a b off : Int} {tgt : Nat} (ha : R32 a) (hb : R32 b) (hd : decode M.2.1 pc = .ok (.if_icmp .ge off, 3)) (ht : (pc : Int) + off = (tgt : Int) := by decide) (k1 : b ≤ a → G Γ M d B post u tgt L st τ) (k2 : a < b → G Γ M d B post u (pc + 3) L st τ) : G Γ M d B post u pc L (vI b :: vI a :: st) τ := by
  intro p e R s m args below meth cd Q H locs ls C F hl hW hS
  exact lv_icmp_ge C.1 C.2.1 hd ht (fun q => k1 ((z_le hb ha).mp q) p e R s m args below meth cd Q H locs ls C F hl hW hS) (fun q => k2 (Int.not_le.mp (fun z => q ((z_le hb ha).mpr z))) p e R s m args below meth cd Q H locs ls C F hl hW hS)
theorem g_if_ge {a off : Int} {tgt : Nat} (ha : R32 a) (hd : decode M.2.1 pc = .ok (.ifCond .ge off, 3)) (ht : (pc : Int) + off = (tgt : Int) := by decide) (k1 : 0 ≤ a → G Γ M d B post u tgt L st τ) (k2 : a < 0 → G Γ M d B post u (pc + 3) L st τ) : G Γ M d B post u pc L (vI a :: st) τ := by
  intro p e R s m args below meth cd Q H locs ls C F hl hW hS
  have hb : R32 0 := by omega
  exact lv_if_ge C.1 C.2.1 hd ht (fun q => k1 ((z_le hb ha).mp q) p e R s m args below meth cd Q H locs ls C F hl hW hS) (fun q => k2 (Int.not_le.mp (fun z => q ((z_le hb ha).mpr z))) p e R s m args below meth cd Q H locs ls C F hl hW hS)
theorem g_icmp_gt {a b off : Int} {tgt : Nat} (ha : R32 a) (hb : R32 b) (hd : decode M.2.1 pc = .ok (.if_icmp .gt off, 3)) (ht : (pc : Int) + off = (tgt : Int) := by decide) (k1 : b < a → G Γ M d B post u tgt L st τ) (k2 : a ≤ b → G Γ M d B post u (pc + 3) L st τ) : G Γ M d B post u pc L (vI b :: vI a :: st) τ := by
  intro p e R s m args below meth cd Q H locs ls C F hl hW hS
  exact lv_icmp_gt C.1 C.2.1 hd ht (fun q => k1 ((z_lt hb ha).mp q) p e R s m args below meth cd Q H locs ls C F hl hW hS) (fun q => k2 (Int.not_lt.mp (fun z => q ((z_lt hb ha).mpr z))) p e R s m args below meth cd Q H locs ls C F hl hW hS)
theorem g_if_gt {a off : Int} {tgt : Nat} (ha : R32 a) (hd : decode M.2.1 pc = .ok (.ifCond .gt off, 3)) (ht : (pc : Int) + off = (tgt : Int) := by decide) (k1 : 0 < a → G Γ M d B post u tgt L st τ) (k2 : a ≤ 0 → G Γ M d B post u (pc + 3) L st τ) : G Γ M d B post u pc L (vI a :: st) τ := by
  intro p e R s m args below meth cd Q H locs ls C F hl hW hS
  have hb : R32 0 := by omega
  exact lv_if_gt C.1 C.2.1 hd ht (fun q => k1 ((z_lt hb ha).mp q) p e R s m args below meth cd Q H locs ls C F hl hW hS) (fun q => k2 (Int.not_lt.mp (fun z => q ((z_lt hb ha).mpr z))) p e R s m args below meth cd Q H locs ls C F hl hW hS)
theorem g_icmp_le {a b off : Int} {tgt : Nat} (ha : R32 a) (hb : R32 b) (hd : decode M.2.1 pc = .ok (.if_icmp .le off, 3)) (ht : (pc : Int) + off = (tgt : Int) := by decide) (k1 : a ≤ b → G Γ M d B post u tgt L st τ) (k2 : b < a → G Γ M d B post u (pc + 3) L st τ) : G Γ M d B post u pc L (vI b :: vI a :: st) τ := by
  intro p e R s m args below meth cd Q H locs ls C F hl hW hS
  exact lv_icmp_le C.1 C.2.1 hd ht (fun q => k1 ((z_le ha hb).mp q) p e R s m args below meth cd Q H locs ls C F hl hW hS) (fun q => k2 (Int.not_le.mp (fun z => q ((z_le ha hb).mpr z))) p e R s m args below meth cd Q H locs ls C F hl hW hS)
theorem g_if_le {a off : Int} {tgt : Nat} (ha : R32 a) (hd : decode M.2.1 pc = .ok (.ifCond .le off, 3)) (ht : (pc : Int) + off = (tgt : Int) := by decide) (k1 : a ≤ 0 → G Γ M d B post u tgt L st τ) (k2 : 0 < a → G Γ M d B post u (pc + 3) L st τ) : G Γ M d B post u pc L (vI a :: st) τ := by
  intro p e R s m args below meth cd Q H locs ls C F hl hW hS
  have hb : R32 0 := by omega
  exact lv_if_le C.1 C.2.1 hd ht (fun q => k1 ((z_le ha hb).mp q) p e R s m args below meth cd Q H locs ls C F hl hW hS) (fun q => k2 (Int.not_le.mp (fun z => q ((z_le ha hb).mpr z))) p e R s m args below meth cd Q H locs ls C F hl hW hS)
theorem g_if_eqB {P : Prop} [Decidable P] {off : Int} {tgt : Nat} (hd : decode M.2.1 pc = .ok (.ifCond .eq off, 3)) (ht : (pc : Int) + off = (tgt : Int) := by decide) (k1 : ¬ P → G Γ M d B post u tgt L st τ) (k2 : P → G Γ M d B post u (pc + 3) L st τ) : G Γ M d B post u pc L (vI (b2 P) :: st) τ :=
  g_if_eq (by have := b2_r (P := P); omega) hd ht (fun h => k1 (fun q => by rw [b2_t q] at h; omega)) (fun h => k2 (Classical.byContradiction fun q => h (b2_f q)))
theorem g_if_neB {P : Prop} [Decidable P] {off : Int} {tgt : Nat} (hd : decode M.2.1 pc = .ok (.ifCond .ne off, 3)) (ht : (pc : Int) + off = (tgt : Int) := by decide) (k1 : P → G Γ M d B post u tgt L st τ) (k2 : ¬ P → G Γ M d B post u (pc + 3) L st τ) : G Γ M d B post u pc L (vI (b2 P) :: st) τ :=
  g_if_ne (by have := b2_r (P := P); omega) hd ht (fun h => k1 (Classical.byContradiction fun q => h (b2_f q))) (fun h => k2 (fun q => by rw [b2_t q] at h; omega))
theorem g_ifnull {a : Nat} {off : Int} (hd : decode M.2.1 pc = .ok (.ifnull off, 3)) (k : G Γ M d B post u (pc + 3) L st τ) : G Γ M d B post u pc L (.ref a :: st) τ := by
  intro p e R s m args below meth cd Q H locs ls C F hl hW hS
  exact lv_ifnull C.1 C.2.1 hd (k p e R s m args below meth cd Q H locs ls C F hl hW hS)
theorem g_tableOut {dflt lo hi a : Int} {offs : Array Int} {len tgt : Nat} (ha : R32 a) (hd : decode M.2.1 pc = .ok (.tableswitch dflt lo hi offs, len)) (h : a < lo ∨ hi < a) (ht : (pc : Int) + dflt = (tgt : Int) := by decide) (k : G Γ M d B post u tgt L st τ) : G Γ M d B post u pc L (vI a :: st) τ := by
  intro p e R s m args below meth cd Q H locs ls C F hl hW hS
  exact lv_tableOut C.1 C.2.1 hd (by rw [z_toInt ha]; exact h) ht (k p e R s m args below meth cd Q H locs ls C F hl hW hS)
theorem g_tableIn {dflt lo hi a off : Int} {offs : Array Int} {len tgt : Nat} (ha : R32 a) (hd : decode M.2.1 pc = .ok (.tableswitch dflt lo hi offs, len)) (v : Int) (hv : a = v) (h1 : ¬ v < lo := by decide) (h2 : ¬ hi < v := by decide) (ho : offs[(v - lo).toNat]? = some off := by rfl) (ht : (pc : Int) + off = (tgt : Int) := by decide) (k : G Γ M d B post u tgt L st τ) : G Γ M d B post u pc L (vI a :: st) τ := by
  intro p e R s m args below meth cd Q H locs ls C F hl hW hS
  subst hv
  exact lv_tableIn C.1 C.2.1 hd (by rw [z_toInt ha]; exact h1) (by rw [z_toInt ha]; exact h2) (by rw [z_toInt ha]; exact ho) ht (k p e R s m args below meth cd Q H locs ls C F hl hW hS)
theorem g_lookup {dflt a off : Int} {ps : Array (Int × Int)} {len tgt : Nat} (ha : R32 a) (hd : decode M.2.1 pc = .ok (.lookupswitch dflt ps, len)) (hp : (ps.toList.zip (ps.toList.drop 1)).all (fun (a, next) => a.1 < next.1) = true) (ho : Op.lookupswitch.offset ps.toList dflt a = off) (ht : (pc : Int) + off = (tgt : Int) := by decide) (k : G Γ M d B post u tgt L st τ) : G Γ M d B post u pc L (vI a :: st) τ := by
  intro p e R s m args below meth cd Q H locs ls C F hl hW hS
  exact lv_lookup C.1 C.2.1 hd hp (by rw [z_toInt ha]; exact ho) ht (k p e R s m args below meth cd Q H locs ls C F hl hW hS)
/-! returns -/
theorem g_iret {a : Int} (hr : M.2.2.2 = some .int) (hd : decode M.2.1 pc = .ok (.ireturn, 1)) (hu : u = B) (h : post (some (vI a)) τ) : G Γ M d B post u pc L [vI a] τ := by
  intro p e R s m args below meth cd Q H locs ls C F hl hW hS
  subst hu
  exact F pc ls (some (vI a)) τ H locs (Or.inr (Or.inl ⟨_, _, hr, rfl, rfl, hd⟩)) h hW hS
theorem z_narB {a : Int} (h : a = 0 ∨ a = 1) : narrow .boolean (.int (Int32.ofInt a)) = .int (Int32.ofInt a) := by rcases h with rfl | rfl <;> decide
theorem g_zret {a : Int} (ha : a = 0 ∨ a = 1) (hr : M.2.2.2 = some .boolean) (hd : decode M.2.1 pc = .ok (.ireturn, 1)) (hu : u = B) (h : post (some (vI a)) τ) : G Γ M d B post u pc L [vI a] τ := by
  intro p e R s m args below meth cd Q H locs ls C F hl hW hS
  subst hu
  exact F pc ls (some (vI a)) τ H locs (Or.inr (Or.inl ⟨_, _, hr, rfl, z_narB ha, hd⟩)) h hW hS
theorem g_nret {a : Int} {ty : FieldType} (hn : narrow ty (.int (Int32.ofInt a)) = .int (Int32.ofInt a)) (hr : M.2.2.2 = some ty) (hd : decode M.2.1 pc = .ok (.ireturn, 1)) (hu : u = B) (h : post (some (vI a)) τ) : G Γ M d B post u pc L [vI a] τ := by
  intro p e R s m args below meth cd Q H locs ls C F hl hW hS
  subst hu
  exact F pc ls (some (vI a)) τ H locs (Or.inr (Or.inl ⟨_, _, hr, rfl, hn, hd⟩)) h hW hS
theorem g_lret {a : Int} (hr : M.2.2.2 = some .long) (hd : decode M.2.1 pc = .ok (.lreturn, 1)) (hu : u = B) (h : post (some (vL a)) τ) : G Γ M d B post u pc L [vL a] τ := by
  intro p e R s m args below meth cd Q H locs ls C F hl hW hS
  subst hu
  exact F pc ls (some (vL a)) τ H locs (Or.inr (Or.inr (Or.inl ⟨_, hr, rfl, hd⟩))) h hW hS
theorem g_vret (hr : M.2.2.2 = none) (hd : decode M.2.1 pc = .ok (.return_, 1)) (hu : u = B) (h : post none τ) : G Γ M d B post u pc L [] τ := by
  intro p e R s m args below meth cd Q H locs ls C F hl hW hS
  subst hu
  exact F pc ls none τ H locs (Or.inl ⟨hr, rfl, hd⟩) h hW hS
theorem g_aret {a : Nat} {nm : String} (hr : M.2.2.2 = some (.object nm)) (hd : decode M.2.1 pc = .ok (.areturn, 1)) (hu : u = B) (h : post (some (.ref a)) τ) : G Γ M d B post u pc L [.ref a] τ := by
  intro p e R s m args below meth cd Q H locs ls C F hl hW hS
  subst hu
  exact F pc ls (some (.ref a)) τ H locs (Or.inr (Or.inr (Or.inr ⟨_, _, hr, Or.inl ⟨_, rfl⟩, rfl, hd⟩))) h hW hS
end GR
