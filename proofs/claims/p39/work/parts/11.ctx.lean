def lenJS : List Nat := [5, 4, 5, 10, 1, 1, 6, 3]
def bytJS : List (List Int32) := [[111, 117, 110, 116, 32], [97, 108, 107, 32], [100, 97, 119, 110, 32], [48, 49, 50, 51, 52, 53, 54, 55, 56, 57], [32], [41], [102, 104, 107, 118, 103, 99], [60, 61, 62]]
def strL : List (Nat × String) := [(44, "ount "), (46, "alk "), (48, "dawn "), (81, "0123456789"), (58, " "), (71, ")"), (73, "fhkvgc"), (79, "<=>")]
def adK (Γ : KT) (i : Nat) : Nat := kS Γ (10 + i)
def adV (Γ : KT) (i : Nat) : Nat := kS Γ (20 + i)
/-- what is known of the machine's tables and of old cells, in every state that the system comes to -/
def KS (Γ : KT) (U : State) : Prop :=
  va_K (kD Γ) vwCl [] U ∧ (∀ t, 1 ≤ t → t ≤ 6 → ArrOfT U (kA Γ t) (aty t) ∧ U.vm.findClass ("[" ++ (aty t).toString) = some (kA Γ t)) ∧ (∀ w ∈ nestL, va_Nw w U) ∧
  va_Z "AskedIn" "ABOVE" "[I" (.ref (kS Γ 0)) (stA Γ) U (kH Γ) ∧ va_T .int (kS Γ 0) 7 (fun j => vI (aboveF j)) (stA Γ) U (kH Γ) ∧
  va_Z "AskedIn$Acts" "BODIES" "[I" (.ref (kS Γ 1)) (stA Γ) U (kH Γ) ∧ va_T .int (kS Γ 1) 21 (fun j => vI (bodiesF j)) (stA Γ) U (kH Γ) ∧
  va_Z "java/lang/String" "COMPACT_STRINGS" "Z" (.int 1) (stA Γ) U (kH Γ) ∧ va_Zq "jdk/internal/util/Preconditions" "SIOOBE_FORMATTER" "Ljava/util/function/BiFunction;" (stA Γ) U (kH Γ) ∧
  vk_S 8 lenJS bytJS (adK Γ) (adV Γ) (stA Γ) U (kH Γ) ∧ (∀ i q, strL[i]? = some q → vk_R "AskedIn$Text" q.1 q.2 (adK Γ i) U) ∧ (∀ t, t = .int ∨ t = .long → (Cond.arrayOver (.array t)).before #[] U = true) ∧
  va_T .int (kS Γ 2) (kS Γ 3) (fun j => .int (kX Γ j)) (stA Γ) U (kH Γ)
theorem nw_warm {s U : State} (hW : s.WarmedH U.vm) (h : ∀ w ∈ nestL, va_Nw w s) : ∀ w ∈ nestL, va_Nw w U := by
  intro w hw
  have h1 := h w hw
  have key : (∃ a i b n d q, w = .fieldLinkNest a i b n d q) ∨ ∃ a i x q, w = .methodLinkNest a i x q := by
    revert w
    unfold nestL
    simp
  rcases key with ⟨a, i, b, n, d, q, rfl⟩ | ⟨a, i, x, q, rfl⟩
  · exact va_Nw.warmF hW h1
  · exact va_Nw.warmM hW h1
theorem ao_moved {t : FieldType} {u U : State} (hvm : u.vm.Alike U.vm) (h : (Cond.arrayOver (.array t)).before #[] u = true) : (Cond.arrayOver (.array t)).before #[] U = true := by
  have fc : ∀ x ld, U.vm.findClass x ld = u.vm.findClass x ld := fun x ld => hvm.findClass x ld
  unfold Cond.before Cond.holds at h ⊢
  simp only [Cond.value, beq_iff_eq, fc] at h ⊢
  rw [Option.bind_eq_some_iff] at h ⊢
  obtain ⟨comp, hc, h⟩ := h
  refine ⟨comp, hc, ?_⟩
  rw [Option.bind_eq_some_iff] at h ⊢
  obtain ⟨c, hi, h⟩ := h
  refine ⟨c, ?_, ?_⟩
  · have e1 := va_idx_bare U.vm comp
    have e2 := va_idx_bare u.vm comp
    rw [hvm.bare_eq] at e1
    exact (e1.symm.trans e2).trans hi
  · rw [Option.map_eq_some_iff] at h ⊢
    obtain ⟨k, hk, hb⟩ := h
    obtain ⟨k', hk', he⟩ := hvm.2.2 _ _ hk
    exact ⟨k', hk', by rw [he]; exact hb⟩
theorem KS.warm {Γ : KT} {s U : State} (h : KS Γ s) (hW : s.WarmedH U.vm) : KS Γ U := by
  obtain ⟨h1, h2, h3, h4, h5, h6, h7, h8, h9, h10, h11, h12, h13⟩ := h
  have a := hW.alike
  exact ⟨h1.moved a, fun t ha hb => ⟨arrOfT_moved a (h2 t ha hb).1, by rw [a.findClass]; exact (h2 t ha hb).2⟩, nw_warm hW h3, h4.moved a, h5.moved a, h6.moved a, h7.moved a, h8.moved a, h9.moved a, h10.moved a, fun i q hq => (h11 i q hq).warm hW, fun t ht => ao_moved a (h12 t ht), h13.moved a⟩
theorem KS.same {Γ : KT} {s U : State} (h : KS Γ s) (hv : U.vm = s.vm) : KS Γ U := h.warm (by rw [hv]; exact State.WarmedH.refl s)
/-! contracts -/
def rmD (d : Nat) (B : Nat × Nat) : Room := { frames := d, cells := B.1, slots := B.2, locals := 64 * d }
def PreG (Γ : KT) (args : List Value) (τ : St) : Array Value → State → Prop := va_Pc args (fun U => KS Γ U ∧ Wd Γ τ U.heap)
def PostG (Γ : KT) (post : Option Value → St → Prop) : Array Value → State → Outcome → State → Prop := fun _ _ o t => ∃ v τ', o = .returned v ∧ post v τ' ∧ Wd Γ τ' t.heap
def Ct (Γ : KT) (M : MI) (d : Nat) (B : Nat × Nat) (args : List Value) (τ : St) (post : Option Value → St → Prop) : Prop :=
  Met (kL Γ) M.1 (.code M.1 M.2.1 M.2.2.1 M.2.2.2 :: tblG) (rmD d B) (PreG Γ args τ) (PostG Γ post) B.1 B.2 (stA Γ)
def RetI (M : MI) (pc : Nat) (v : Option Value) : Prop :=
  (M.2.2.2 = none ∧ v = none ∧ decode M.2.1 pc = .ok (.return_, 1)) ∨
  (∃ (ty : FieldType) (x : Int32), M.2.2.2 = some ty ∧ v = some (.int x) ∧ narrow ty (.int x) = .int x ∧ decode M.2.1 pc = .ok (.ireturn, 1)) ∨
  (∃ x : Int64, M.2.2.2 = some .long ∧ v = some (.long x) ∧ decode M.2.1 pc = .ok (.lreturn, 1)) ∨
  (∃ (rt : FieldType) (a : Nat), M.2.2.2 = some rt ∧ ((∃ n, rt = .object n) ∨ ∃ t, rt = .array t) ∧ v = some (.ref a) ∧ decode M.2.1 pc = .ok (.areturn, 1))
def FinQ (Γ : KT) (M : MI) (B : Nat × Nat) (post : Option Value → St → Prop) (p : Program) (e : Env) (R : Room) (s : State) (m : MethodId) (args : Array Value) (below : List Frame) (meth : Method) (cd : Code) (Q : State → Prop) : Prop :=
  ∀ (pc : Nat) (ls : Array Slot) (v : Option Value) (τ : St) (H : Heap) (locs : List Loc), RetI M pc v → post v τ → Wd Γ τ H → (∀ q ∈ locs, stA Γ q.base) → W p (kL Γ) e R s m args below meth cd H locs B.1 B.2 Q (F0 m pc ls v.toList)
def Cx (Γ : KT) (M : MI) (d : Nat) (B : Nat × Nat) (p : Program) (R : Room) (s : State) (m : MethodId) (args : Array Value) (meth : Method) (cd : Code) : Prop :=
  p.tables.exec = Jvm.exec ∧ cd.code = M.2.1 ∧ cd.maxLocals = M.2.2.1 ∧ s.vm.findClass M.1.cls = some m.cls ∧ (∀ w ∈ tblG, w.before args s = true) ∧ KS Γ s ∧ meth.name = M.1.name ∧ (d ≤ R.frames ∧ 64 * d ≤ R.locals ∧ B.1 ≤ R.cells ∧ B.2 ≤ R.slots)
def lvD (ls : Array Slot) (nL : Nat) (L : List (Option Value)) : Prop := ls.size = nL ∧ lv_wf ls ∧ ∀ (i : Nat) (v : Value), L[i]? = some (some v) → ls[i]? = some (Slot.val v)
def G (Γ : KT) (M : MI) (d : Nat) (B : Nat × Nat) (post : Option Value → St → Prop) (u : Nat × Nat) (pc : Nat) (L : List (Option Value)) (st : List Value) (τ : St) : Prop :=
  ∀ (p : Program) (e : Env) (R : Room) (s : State) (m : MethodId) (args : Array Value) (below : List Frame) (meth : Method) (cd : Code) (Q : State → Prop) (H : Heap) (locs : List Loc) (ls : Array Slot),
    Cx Γ M d B p R s m args meth cd → FinQ Γ M B post p e R s m args below meth cd Q → lvD ls M.2.2.1 L → Wd Γ τ H → (∀ q ∈ locs, stA Γ q.base) → W p (kL Γ) e R s m args below meth cd H locs u.1 u.2 Q (F0 m pc ls st)
theorem fin_of {Γ : KT} {M : MI} {B : Nat × Nat} {post : Option Value → St → Prop} {p : Program} {e : Env} {R : Room} {s : State} {m : MethodId} {args : Array Value} {below : List Frame} {meth : Method} {cd : Code} (hx : p.tables.exec = Jvm.exec) (hb : cd.code = M.2.1) (hr : meth.sig.returnType = M.2.2.2) (hlocks : meth.locks = false) :
    FinQ Γ M B post p e R s m args below meth cd (MQ below (PostG Γ post) args s B.1 B.2 (stA Γ)) := by
  intro pc ls v τ H locs hR hp hW hl
  have hq : ∀ t : State, t.heap = H → s.WarmedH t.vm → PostG Γ post args s (.returned v) t := fun t ht _ => ⟨v, τ, rfl, hp, by rw [ht]; exact hW⟩
  rcases hR with ⟨h1, rfl, h3⟩ | ⟨ty, x, h1, rfl, h2, h3⟩ | ⟨x, h1, rfl, h3⟩ | ⟨rt, a, h1, h2, rfl, h3⟩
  · exact W.vret hx hb (hr.trans h1) hq hl h3 hlocks
  · exact W.zret hx hb (hr.trans h1) h2 hq hl h3 hlocks
  · exact W.lret hx hb (hr.trans h1) hq hl h3 hlocks
  · exact W.aret hx hb (hr.trans h1) h2 (Or.inr ⟨a, rfl⟩) hq hl h3 hlocks
def argL : List Value → List (Option Value)
  | [] => []
  | v :: l => if v.category = 2 then some v :: none :: argL l else some v :: argL l
def padL (n : Nat) (l : List (Option Value)) : List (Option Value) := l ++ List.replicate (n - l.length) none
theorem argL_args : ∀ (l : List Value) (i k : Nat) (v : Value), (argL l)[k]? = some (some v) → (i + k, v) ∈ lv_args i l
  | [], _, _, _, h => by simp [argL] at h
  | a :: l, i, k, v, h => by
    unfold argL at h
    unfold lv_args
    by_cases hc : a.category = 2
    · rw [if_pos hc] at h
      match k, h with
      | 0, h => simp at h; subst h; first | exact List.mem_cons_self | (rw [if_pos hc]; exact List.mem_cons_self)
      | 1, h => simp at h
      | k + 2, h =>
        have := argL_args l (i + 2) k v (by simpa using h)
        have e : i + 2 + k = i + (k + 2) := by omega
        rw [e] at this
        simp [hc]; first | exact this | exact Or.inr this
    · rw [if_neg hc] at h
      match k, h with
      | 0, h => simp at h; subst h; first | exact List.mem_cons_self | (rw [if_neg hc]; exact List.mem_cons_self)
      | k + 1, h =>
        have := argL_args l (i + 1) k v (by simpa using h)
        have e : i + 1 + k = i + (k + 1) := by omega
        rw [e] at this
        simp [hc]; first | exact this | exact Or.inr this
theorem padL_get {n k : Nat} {l : List (Option Value)} {v : Value} (h : (padL n l)[k]? = some (some v)) : l[k]? = some (some v) := by
  unfold padL at h
  rw [List.getElem?_append] at h
  by_cases e : k < l.length
  · rwa [if_pos e] at h
  · rw [if_neg e, List.getElem?_replicate] at h
    by_cases q : k - l.length < n - l.length
    · rw [if_pos q] at h; cases h
    · rw [if_neg q] at h; cases h
theorem lvD_entry (vs : List Value) {n : Nat} (h : (lg_sl vs).length ≤ n) : lvD ((lg_sl vs ++ List.replicate (n - (lg_sl vs).length) Slot.unset).toArray) n (padL n (argL vs)) := by
  obtain ⟨h1, h2, h3⟩ := lv_entry vs h
  refine ⟨h1, h2, fun i v hi => ?_⟩
  have := argL_args vs 0 i v (padL_get hi)
  rw [Nat.zero_add] at this
  exact h3 _ this
/-- a contract out of a walk from the entry -/
theorem Ct.of {Γ : KT} {M : MI} {d : Nat} {B : Nat × Nat} {args : List Value} {τ : St} {post : Option Value → St → Prop} (hn : plainName M.1.cls = true) (ha : (lg_sl args).length ≤ M.2.2.1)
    (h : G Γ M d B post (0, 0) 0 (padL M.2.2.1 (argL args)) [] τ) : Ct Γ M d B args τ post := by
  refine Met.ofW (cc := M.2.1) (maxL := M.2.2.1) (ret := M.2.2.2) hn rfl ?_
  intro p e s m args' below meth c s₁ BL hml hv
  obtain ⟨rfl, hKS, hW⟩ := hv
  have hts := atoms_spec (ws := .code M.1 M.2.1 M.2.2.1 M.2.2.2 :: tblG) BL.pre
  rw [lg_entry_eq]
  exact h p e _ s m _ below meth c _ s.heap [] _ ⟨BL.exec, BL.bytes, hml, findClass_of_methodNamed BL.named, fun w hw => hts w (List.mem_cons_of_mem _ hw), hKS, (name_of_methodNamed BL.named BL.method).1, Nat.le_refl _, Nat.le_refl _, Nat.le_refl _, Nat.le_refl _⟩
    (fin_of BL.exec BL.bytes BL.returns BL.notSynchronized) (lvD_entry args ha) hW (fun _ h => absurd h List.not_mem_nil)
