def shL : List (Nat × Nat) := [(0, 9), (0, 5), (1, 6), (1, 6), (1, 6), (1, 6), (1, 6), (1, 4), (1, 4), (1, 4), (0, 4), (1, 8), (1, 8), (0, 4), (1, 8), (1, 8), (0, 4), (1, 12), (1, 12), (0, 7), (4, 100), (0, 0), (1, 20), (0, 6), (6, 6), (2, 60), (2, 60), (2, 60), (2, 60), (2, 60), (2, 60), (1, 6), (1, 6), (0, 5), (1, 6), (1, 6), (1, 6), (1, 6), (1, 6), (1, 4), (1, 4), (1, 4), (0, 4), (1, 8), (1, 8), (0, 4), (1, 8), (1, 8), (0, 4), (1, 12), (1, 12), (0, 8), (5, 6), (1, 100), (1, 100), (1, 100), (1, 100), (1, 100), (1, 100), (1, 6), (1, 6), (1, 6), (0, 2), (0, 3), (1, 5), (1, 5), (0, 1), (1, 6), (1, 6), (0, 10), (1, 6), (1, 6), (1, 6), (1, 6), (1, 24), (1, 4), (1, 4), (1, 4), (1, 100), (1, 6), (1, 60), (1, 60), (1, 60), (1, 60), (1, 600), (1, 101), (1, 13), (3, 100), (1, 8), (1, 5), (1, 5), (1, 8), (3, 8), (1, 12), (1, 12), (1, 6), (1, 6), (1, 6), (1, 6), (1, 24), (1, 4), (1, 4), (1, 4), (1, 8), (1, 8), (1, 12), (1, 12), (3, 8), (1, 20), (1, 6), (1, 6), (2, 360), (2, 60)]
def fkL : List (List Nat) := [[1, 0, 0, 0, 0], [1, 1, 1, 1, 0, 0, 0, 0, 0, 0], [1, 1, 1, 1], [1, 1, 0, 0, 0], [1, 1, 0], [0, 1, 1, 1, 1, 1, 0, 1, 1, 1, 1, 1, 1, 0], [1, 1, 1], [1, 0, 0, 0, 1, 0, 0], [1, 1, 1, 0, 1, 0, 0], [1, 1, 2, 1, 1, 1, 1, 1], [0, 0, 1, 1, 1, 1, 1, 1, 1, 1, 0, 0, 0, 0, 0, 1, 1, 1, 1, 1, 1, 1, 1, 0, 0, 0, 1, 1, 0, 0, 0, 0, 0, 0, 0, 1, 1, 1, 0, 1, 1, 0, 1, 1, 2, 0, 0, 0, 0, 0, 0, 1, 1, 1, 1, 1, 1, 1, 1, 1, 1, 1, 1, 1, 0, 1, 1, 1, 1, 1]]
abbrev St : Type := Nat × (Nat → Nat → Nat) × (Nat → Int → Int)
/-- launch, class tables, array classes, the heap at the law's start, addresses of statics and texts -/
abbrev KT : Type := Launch × va_G × (Nat → ClassId) × Heap × (Nat → Nat) × (Nat → Int32)
def kL (Γ : KT) : Launch := Γ.1
def kD (Γ : KT) : va_G := Γ.2.1
def kA (Γ : KT) : Nat → ClassId := Γ.2.2.1
def kH (Γ : KT) : Heap := Γ.2.2.2.1
def kS (Γ : KT) : Nat → Nat := Γ.2.2.2.2.1
/-- the law's script: its cell is kS Γ 2, its length kS Γ 3 -/
def kX (Γ : KT) : Nat → Int32 := Γ.2.2.2.2.2
def kB (Γ : KT) : Nat := (kH Γ).size
def vI (x : Int) : Value := .int (Int32.ofInt x)
def vL (x : Int) : Value := .long (Int64.ofInt x)
def vR (Γ : KT) (k : Nat) : Value := .ref (kB Γ + k)
abbrev R32 (x : Int) : Prop := -2147483648 ≤ x ∧ x < 2147483648
abbrev R64 (x : Int) : Prop := -9223372036854775808 ≤ x ∧ x < 9223372036854775808
def shp (k : Nat) : Nat × Nat := shL.getD k (9, 0)
def fk (ci : Nat) : List Nat := fkL.getD ci []
def up (σ : Nat → Int → Int) (k : Nat) (j x : Int) : Nat → Int → Int := fun a b => if a = k ∧ b = j then x else σ a b
def upr (ρ : Nat → Nat → Nat) (k j v : Nat) : Nat → Nat → Nat := fun a b => if a = k ∧ b = j then v else ρ a b
def rfv (Γ : KT) (r : Nat) : Option Nat := if r = 0 then none else some (kB Γ + (r - 1))
def fval (Γ : KT) (τ : St) (k j t : Nat) : Value := if t = 1 then va_rf (rfv Γ (τ.2.1 k j)) else vI (τ.2.2 k j)
def fsOf (Γ : KT) (τ : St) (k : Nat) (l : List Nat) : List Value := l.zipIdx.map (fun q => fval Γ τ k q.2 q.1)
def wE (Γ : KT) (τ : St) (k : Nat) : va_E :=
  if (shp k).1 = 0 then .inr ((shp k).2, fsOf Γ τ k (fk (shp k).2))
  else if (shp k).1 = 2 then .inl (kA Γ 2, (shp k).2, .inr (.inl (fun j => Int64.ofInt (τ.2.2 k j))))
  else if (shp k).1 = 5 ∨ (shp k).1 = 6 then .inl (kA Γ (shp k).1, (shp k).2, .inr (.inr (.inr (.inr (fun j => rfv Γ (τ.2.1 k j))))))
  else .inl (kA Γ (shp k).1, (shp k).2, .inl (fun j => Int32.ofInt (τ.2.2 k j)))
def Nz (σ : Nat → Int → Int) : Prop := ∀ k j, if (shp k).1 = 2 then R64 (σ k j) else R32 (σ k j)
def Wd (Γ : KT) (τ : St) (H : Heap) : Prop :=
  H.size = kB Γ + τ.1 ∧ (∀ k, k < τ.1 → va_at (kD Γ) vwCl (kB Γ + k, wE Γ τ k) H) ∧ (∀ q, q < kB Γ → H[q]? = (kH Γ)[q]?) ∧ Nz τ.2.2
theorem Nz.i {σ : Nat → Int → Int} (h : Nz σ) {k : Nat} (j : Int) (hk : (shp k).1 ≠ 2) : R32 (σ k j) := by
  have := h k j
  rwa [if_neg hk] at this
theorem Nz.l {σ : Nat → Int → Int} (h : Nz σ) {k : Nat} (j : Int) (hk : (shp k).1 = 2) : R64 (σ k j) := by
  have := h k j
  rwa [if_pos hk] at this
theorem nz_up {σ : Nat → Int → Int} (h : Nz σ) {k : Nat} {j x : Int} (hx : if (shp k).1 = 2 then R64 x else R32 x) : Nz (up σ k j x) := by
  intro a b
  by_cases e : a = k ∧ b = j
  · obtain ⟨rfl, rfl⟩ := e
    simpa [up] using hx
  · simpa [up, e] using h a b
theorem wd_put {Γ : KT} {τ τ' : St} {H H' : Heap} {k : Nat} (h : Wd Γ τ H) (h1 : va_at (kD Γ) vwCl (kB Γ + k, wE Γ τ' k) H') (oq : ∀ q, q ≠ kB Γ + k → H'[q]? = H[q]?) (z : H'.size = H.size) (hn : τ'.1 = τ.1) (he : ∀ k', k' ≠ k → wE Γ τ' k' = wE Γ τ k') (hz : Nz τ'.2.2) : Wd Γ τ' H' := by
  refine ⟨by rw [z, hn]; exact h.1, fun k' hk' => ?_, fun q hq => ?_, hz⟩
  · by_cases e : k' = k
    · subst e; exact h1
    · rw [he k' e]
      exact (h.2.1 k' (by omega)).kept (oq _ (fun q => e (by omega)))
  · rw [oq q (by omega)]
    exact h.2.2.1 q hq
theorem fval_up_ne {Γ : KT} {n : Nat} {ρ : Nat → Nat → Nat} {σ : Nat → Int → Int} {k k' : Nat} {j x : Int} (h : k' ≠ k) (i t : Nat) : fval Γ (n, ρ, up σ k j x) k' i t = fval Γ (n, ρ, σ) k' i t := by
  unfold fval; simp [up, h]
theorem wE_up_ne {Γ : KT} {n : Nat} {ρ : Nat → Nat → Nat} {σ : Nat → Int → Int} {k : Nat} {j x : Int} (k' : Nat) (h : k' ≠ k) : wE Γ (n, ρ, up σ k j x) k' = wE Γ (n, ρ, σ) k' := by
  unfold wE fsOf
  simp only [fval_up_ne h, up, h, false_and, if_false]
theorem fval_upr_ne {Γ : KT} {n : Nat} {ρ : Nat → Nat → Nat} {σ : Nat → Int → Int} {k k' j v : Nat} (h : k' ≠ k) (i t : Nat) : fval Γ (n, upr ρ k j v, σ) k' i t = fval Γ (n, ρ, σ) k' i t := by
  unfold fval; simp [upr, h]
theorem wE_upr_ne {Γ : KT} {n : Nat} {ρ : Nat → Nat → Nat} {σ : Nat → Int → Int} {k j v : Nat} (k' : Nat) (h : k' ≠ k) : wE Γ (n, upr ρ k j v, σ) k' = wE Γ (n, ρ, σ) k' := by
  unfold wE fsOf
  simp only [fval_upr_ne h, upr, h, false_and, if_false]
theorem fsOf_len {Γ : KT} {τ : St} {k : Nat} {l : List Nat} : (fsOf Γ τ k l).length = l.length := by simp [fsOf]
theorem fsOf_get {Γ : KT} {τ : St} {k j t : Nat} {l : List Nat} (h : l[j]? = some t) : (fsOf Γ τ k l)[j]? = some (fval Γ τ k j t) := by
  unfold fsOf
  rw [List.getElem?_map, List.getElem?_zipIdx, h]
  simp
theorem fsOf_set {Γ : KT} {τ τ' : St} {k j t : Nat} {l : List Nat} {v : Value} (hl : l[j]? = some t) (hv : fval Γ τ' k j t = v) (ho : ∀ i u, i ≠ j → fval Γ τ' k i u = fval Γ τ k i u) : (fsOf Γ τ k l).set j v = fsOf Γ τ' k l := by
  apply List.ext_getElem?
  intro i
  rw [List.getElem?_set]
  have hj : j < l.length := (List.getElem?_eq_some_iff.mp hl).1
  by_cases e : j = i
  · subst e
    rw [if_pos rfl, if_pos (by rw [fsOf_len]; exact hj), fsOf_get hl, hv]
  · rw [if_neg e]
    unfold fsOf
    rw [List.getElem?_map, List.getElem?_zipIdx, List.getElem?_map, List.getElem?_zipIdx]
    cases l[i]? with
    | none => rfl
    | some u => simp [ho i u (fun q => e q.symm)]
/-! words -/
def tblG : List Cond := lw_tbl.filter goodWord
theorem memT {w : Cond} (h : w ∈ lw_tbl) (g : goodWord w = true) : w ∈ tblG := List.mem_filter.mpr ⟨h, g⟩
theorem tblG_good {y : Cond} (hy : y ∈ tblG) : GoodIn tblG (y :: tblG) := by
  have key : ∀ w ∈ tblG, w ∈ tblG ∧ ((w.onTables && w.keeps) = true ∨ ∃ ty, w = .arrayClass ty) := fun w h => ⟨h, good_of_word (List.mem_filter.mp h).2⟩
  intro w h
  rcases List.mem_cons.mp h with rfl | h
  · exact key _ hy
  · exact key _ h
/-! the class and array tables, statics -/
def aty (t : Nat) : FieldType := if t = 1 then .int else if t = 2 then .long else if t = 3 then .boolean else if t = 4 then .byte else if t = 5 then .array .int else .array .long
def stA (Γ : KT) : Nat → Prop := fun q => kB Γ ≤ q
def bodiesF (j : Nat) : Int := [10, 11, 12, 0, 20, 0, 30, 0, 0, 0, 0, 40, 50, 51, 0, 0, 0, 60, 71, 70, 0].getD j 0
def aboveF (j : Nat) : Int := [-1, 0, 0, 0, 1, 2, 3].getD j 0

theorem tin_1 : ∀ w ∈ tables_1_1, w ∈ lw_tbl := fun w h => (List.mem_append_right _ (List.mem_append_left _ h) : w ∈ k2_sels lw_privs ++ (tables_1_1 ++ (tables_1_2 ++ (tables_1_3 ++ (tables_1_4 ++ (tables_1_5 ++ (tables_1_6 ++ (tables_1_7))))))))
theorem tin_2 : ∀ w ∈ tables_1_2, w ∈ lw_tbl := fun w h => (List.mem_append_right _ (List.mem_append_right _ (List.mem_append_left _ h)) : w ∈ k2_sels lw_privs ++ (tables_1_1 ++ (tables_1_2 ++ (tables_1_3 ++ (tables_1_4 ++ (tables_1_5 ++ (tables_1_6 ++ (tables_1_7))))))))
theorem tin_3 : ∀ w ∈ tables_1_3, w ∈ lw_tbl := fun w h => (List.mem_append_right _ (List.mem_append_right _ (List.mem_append_right _ (List.mem_append_left _ h))) : w ∈ k2_sels lw_privs ++ (tables_1_1 ++ (tables_1_2 ++ (tables_1_3 ++ (tables_1_4 ++ (tables_1_5 ++ (tables_1_6 ++ (tables_1_7))))))))
theorem tin_4 : ∀ w ∈ tables_1_4, w ∈ lw_tbl := fun w h => (List.mem_append_right _ (List.mem_append_right _ (List.mem_append_right _ (List.mem_append_right _ (List.mem_append_left _ h)))) : w ∈ k2_sels lw_privs ++ (tables_1_1 ++ (tables_1_2 ++ (tables_1_3 ++ (tables_1_4 ++ (tables_1_5 ++ (tables_1_6 ++ (tables_1_7))))))))
theorem tin_5 : ∀ w ∈ tables_1_5, w ∈ lw_tbl := fun w h => (List.mem_append_right _ (List.mem_append_right _ (List.mem_append_right _ (List.mem_append_right _ (List.mem_append_right _ (List.mem_append_left _ h))))) : w ∈ k2_sels lw_privs ++ (tables_1_1 ++ (tables_1_2 ++ (tables_1_3 ++ (tables_1_4 ++ (tables_1_5 ++ (tables_1_6 ++ (tables_1_7))))))))
theorem tin_6 : ∀ w ∈ tables_1_6, w ∈ lw_tbl := fun w h => (List.mem_append_right _ (List.mem_append_right _ (List.mem_append_right _ (List.mem_append_right _ (List.mem_append_right _ (List.mem_append_right _ (List.mem_append_left _ h)))))) : w ∈ k2_sels lw_privs ++ (tables_1_1 ++ (tables_1_2 ++ (tables_1_3 ++ (tables_1_4 ++ (tables_1_5 ++ (tables_1_6 ++ (tables_1_7))))))))
theorem tin_7 : ∀ w ∈ tables_1_7, w ∈ lw_tbl := fun w h => (List.mem_append_right _ (List.mem_append_right _ (List.mem_append_right _ (List.mem_append_right _ (List.mem_append_right _ (List.mem_append_right _ (List.mem_append_right _ (h))))))) : w ∈ k2_sels lw_privs ++ (tables_1_1 ++ (tables_1_2 ++ (tables_1_3 ++ (tables_1_4 ++ (tables_1_5 ++ (tables_1_6 ++ (tables_1_7))))))))
def nestL : List Cond := [(Jvm.Cond.methodLinkNest "AskedIn" (11 : Nat) ({ cls := "AskedIn$Street", name := "<init>", desc := "()V" } : Jvm.MethodName) "AskedIn"), (Jvm.Cond.methodLinkNest "AskedIn" (20 : Nat) ({ cls := "AskedIn$Text", name := "<init>", desc := "()V" } : Jvm.MethodName) "AskedIn"), (Jvm.Cond.methodLinkNest "AskedIn" (27 : Nat) ({ cls := "AskedIn$Acts", name := "<init>", desc := "()V" } : Jvm.MethodName) "AskedIn"), (Jvm.Cond.methodLinkNest "AskedIn" (34 : Nat) ({ cls := "AskedIn$Tapes", name := "<init>", desc := "()V" } : Jvm.MethodName) "AskedIn"), (Jvm.Cond.methodLinkNest "AskedIn" (41 : Nat) ({ cls := "AskedIn$Towns", name := "<init>", desc := "()V" } : Jvm.MethodName) "AskedIn"), (Jvm.Cond.methodLinkNest "AskedIn$Questions" (11 : Nat) ({ cls := "AskedIn$Round", name := "<init>", desc := "()V" } : Jvm.MethodName) "AskedIn"), (Jvm.Cond.fieldLinkNest "AskedIn$Questions" (71 : Nat) "AskedIn$Round" "order" "[I" "AskedIn"), (Jvm.Cond.methodLinkNest "AskedIn$Towns" (32 : Nat) ({ cls := "AskedIn", name := "isUpTo", desc := "(II)Z" } : Jvm.MethodName) "AskedIn"), (Jvm.Cond.methodLinkNest "AskedIn$Night" (44 : Nat) ({ cls := "AskedIn", name := "roundedUp", desc := "(II)I" } : Jvm.MethodName) "AskedIn"), (Jvm.Cond.methodLinkNest "AskedIn$Night" (78 : Nat) ({ cls := "AskedIn", name := "bit", desc := "(II)I" } : Jvm.MethodName) "AskedIn"), (Jvm.Cond.methodLinkNest "AskedIn$Night" (81 : Nat) ({ cls := "AskedIn", name := "withBit", desc := "(IIZ)I" } : Jvm.MethodName) "AskedIn"), (Jvm.Cond.methodLinkNest "AskedIn$Round" (28 : Nat) ({ cls := "AskedIn", name := "bit", desc := "(II)I" } : Jvm.MethodName) "AskedIn"), (Jvm.Cond.methodLinkNest "AskedIn$Questions" (129 : Nat) ({ cls := "AskedIn", name := "roundedUp", desc := "(II)I" } : Jvm.MethodName) "AskedIn"), (Jvm.Cond.methodLinkNest "AskedIn$Questions" (147 : Nat) ({ cls := "AskedIn", name := "withBit", desc := "(IIZ)I" } : Jvm.MethodName) "AskedIn"), (Jvm.Cond.methodLinkNest "AskedIn$Questions" (158 : Nat) ({ cls := "AskedIn", name := "bit", desc := "(II)I" } : Jvm.MethodName) "AskedIn"), (Jvm.Cond.methodLinkNest "AskedIn$Acts" (25 : Nat) ({ cls := "AskedIn", name := "isUpTo", desc := "(II)Z" } : Jvm.MethodName) "AskedIn"), (Jvm.Cond.fieldLinkNest "AskedIn$Acts" (53 : Nat) "AskedIn" "ABOVE" "[I" "AskedIn")]
theorem nestL_in : ∀ w ∈ nestL, w ∈ lw_tbl := List.forall_mem_cons.mpr ⟨tin_1 _ (List.mem_of_getElem? (i := 31) rfl), List.forall_mem_cons.mpr ⟨tin_1 _ (List.mem_of_getElem? (i := 140) rfl), List.forall_mem_cons.mpr ⟨tin_1 _ (List.mem_of_getElem? (i := 173) rfl), List.forall_mem_cons.mpr ⟨tin_1 _ (List.mem_of_getElem? (i := 196) rfl), List.forall_mem_cons.mpr ⟨tin_1 _ (List.mem_of_getElem? (i := 218) rfl), List.forall_mem_cons.mpr ⟨tin_2 _ (List.mem_of_getElem? (i := 22) rfl), List.forall_mem_cons.mpr ⟨tin_2 _ (List.mem_of_getElem? (i := 29) rfl), List.forall_mem_cons.mpr ⟨tin_2 _ (List.mem_of_getElem? (i := 172) rfl), List.forall_mem_cons.mpr ⟨tin_3 _ (List.mem_of_getElem? (i := 154) rfl), List.forall_mem_cons.mpr ⟨tin_3 _ (List.mem_of_getElem? (i := 168) rfl), List.forall_mem_cons.mpr ⟨tin_3 _ (List.mem_of_getElem? (i := 169) rfl), List.forall_mem_cons.mpr ⟨tin_3 _ (List.mem_of_getElem? (i := 226) rfl), List.forall_mem_cons.mpr ⟨tin_4 _ (List.mem_of_getElem? (i := 44) rfl), List.forall_mem_cons.mpr ⟨tin_4 _ (List.mem_of_getElem? (i := 62) rfl), List.forall_mem_cons.mpr ⟨tin_4 _ (List.mem_of_getElem? (i := 76) rfl), List.forall_mem_cons.mpr ⟨tin_4 _ (List.mem_of_getElem? (i := 157) rfl), List.forall_mem_cons.mpr ⟨tin_4 _ (List.mem_of_getElem? (i := 160) rfl), fun _ h => absurd h List.not_mem_nil⟩⟩⟩⟩⟩⟩⟩⟩⟩⟩⟩⟩⟩⟩⟩⟩⟩
def LinkF (own : String) (idx : Nat) (ref n d : String) : Prop := Cond.fieldLink own idx ref n d ∈ tblG ∨ ∃ host, Cond.fieldLinkNest own idx ref n d host ∈ nestL
def LinkM (own : String) (idx : Nat) (y : MethodName) : Prop := Cond.methodLink own idx y ∈ tblG ∨ ∃ host, Cond.methodLinkNest own idx y host ∈ nestL
abbrev MI : Type := MethodName × ByteArray × Nat × Option FieldType
def Cal (M : MI) (n : Nat) : Prop := Cond.initialized M.1.cls ∈ tblG ∧ Cond.code M.1 M.2.1 M.2.2.1 M.2.2.2 ∈ tblG ∧ (M.1.cls ≠ "java/lang/invoke/MethodHandle" ∧ M.1.cls ≠ "java/lang/invoke/VarHandle") ∧ (parseMethodDescriptor M.1.desc).map (fun d => d.parameters.length) = some n
theorem kL_7 : Cond.classLink RL 7 "AskedIn" ∈ tblG := memT (tin_1 _ (List.mem_of_getElem? (i := 21) rfl)) rfl
theorem kL_9 : LinkM RL 9 yX10_init := Or.inl (memT (tin_1 _ (List.mem_of_getElem? (i := 23) rfl)) rfl)
theorem kX10_3 : LinkM RX10 3 ⟨"java/lang/Object", "<init>", "()V"⟩ := Or.inl (memT (tin_1 _ (List.mem_of_getElem? (i := 26) rfl)) rfl)
theorem kX10_9 : Cond.classLink RX10 9 "AskedIn$Street" ∈ tblG := memT (tin_1 _ (List.mem_of_getElem? (i := 29) rfl)) rfl
theorem kX10_11 : LinkM RX10 11 yX5_init := Or.inr ⟨"AskedIn", List.mem_of_getElem? (i := 0) rfl⟩
theorem kX5_3 : LinkM RX5 3 ⟨"java/lang/Object", "<init>", "()V"⟩ := Or.inl (memT (tin_1 _ (List.mem_of_getElem? (i := 34) rfl)) rfl)
theorem kX5_36 : Cond.classLink RX5 36 "AskedIn$Rows" ∈ tblG := memT (tin_1 _ (List.mem_of_getElem? (i := 35) rfl)) rfl
theorem kX5_38 : LinkM RX5 38 yX4_init := Or.inl (memT (tin_1 _ (List.mem_of_getElem? (i := 37) rfl)) rfl)
theorem kX4_3 : LinkM RX4 3 ⟨"java/lang/Object", "<init>", "()V"⟩ := Or.inl (memT (tin_1 _ (List.mem_of_getElem? (i := 40) rfl)) rfl)
theorem kX4_9 : LinkM RX4 9 yJ9_max_7cf53 := Or.inl (memT (tin_1 _ (List.mem_of_getElem? (i := 41) rfl)) rfl)
theorem kX4_15 : LinkF RX4 15 "AskedIn$Rows" "firsts" "[I" := Or.inl (memT (tin_1 _ (List.mem_of_getElem? (i := 44) rfl)) rfl)
theorem kX2_59 : LinkF RX2 59 "AskedIn$Rows" "firsts" "[I" := Or.inl (memT (tin_1 _ (List.mem_of_getElem? (i := 45) rfl)) rfl)
theorem kX4_21 : LinkF RX4 21 "AskedIn$Rows" "seconds" "[I" := Or.inl (memT (tin_1 _ (List.mem_of_getElem? (i := 46) rfl)) rfl)
theorem kX2_144 : LinkF RX2 144 "AskedIn$Rows" "seconds" "[I" := Or.inl (memT (tin_1 _ (List.mem_of_getElem? (i := 47) rfl)) rfl)
theorem kX4_24 : LinkF RX4 24 "AskedIn$Rows" "size" "I" := Or.inl (memT (tin_1 _ (List.mem_of_getElem? (i := 48) rfl)) rfl)
theorem kX2_53 : LinkF RX2 53 "AskedIn$Rows" "size" "I" := Or.inl (memT (tin_1 _ (List.mem_of_getElem? (i := 49) rfl)) rfl)
theorem kX10_288 : LinkF RX10 288 "AskedIn$Rows" "size" "I" := Or.inl (memT (tin_1 _ (List.mem_of_getElem? (i := 50) rfl)) rfl)
theorem kX5_55 : LinkF RX5 55 "AskedIn$Street" "houses" "I" := Or.inl (memT (tin_1 _ (List.mem_of_getElem? (i := 59) rfl)) rfl)
theorem kX2_97 : LinkF RX2 97 "AskedIn$Street" "houses" "I" := Or.inl (memT (tin_1 _ (List.mem_of_getElem? (i := 60) rfl)) rfl)
theorem kX10_185 : LinkF RX10 185 "AskedIn$Street" "houses" "I" := Or.inl (memT (tin_1 _ (List.mem_of_getElem? (i := 61) rfl)) rfl)
theorem kX5_9 : LinkF RX5 9 "AskedIn$Street" "kinds" "[I" := Or.inl (memT (tin_1 _ (List.mem_of_getElem? (i := 62) rfl)) rfl)
theorem kX0_32 : LinkF RX0 32 "AskedIn$Street" "kinds" "[I" := Or.inl (memT (tin_1 _ (List.mem_of_getElem? (i := 63) rfl)) rfl)
theorem kX9_38 : LinkF RX9 38 "AskedIn$Street" "kinds" "[I" := Or.inl (memT (tin_1 _ (List.mem_of_getElem? (i := 64) rfl)) rfl)
theorem kX10_73 : LinkF RX10 73 "AskedIn$Street" "kinds" "[I" := Or.inl (memT (tin_1 _ (List.mem_of_getElem? (i := 65) rfl)) rfl)
theorem kX1_105 : LinkF RX1 105 "AskedIn$Street" "kinds" "[I" := Or.inl (memT (tin_1 _ (List.mem_of_getElem? (i := 66) rfl)) rfl)
theorem kX5_15 : LinkF RX5 15 "AskedIn$Street" "numbers" "[I" := Or.inl (memT (tin_1 _ (List.mem_of_getElem? (i := 67) rfl)) rfl)
theorem kX0_40 : LinkF RX0 40 "AskedIn$Street" "numbers" "[I" := Or.inl (memT (tin_1 _ (List.mem_of_getElem? (i := 68) rfl)) rfl)
theorem kX9_43 : LinkF RX9 43 "AskedIn$Street" "numbers" "[I" := Or.inl (memT (tin_1 _ (List.mem_of_getElem? (i := 69) rfl)) rfl)
theorem kX10_77 : LinkF RX10 77 "AskedIn$Street" "numbers" "[I" := Or.inl (memT (tin_1 _ (List.mem_of_getElem? (i := 70) rfl)) rfl)
theorem kX1_102 : LinkF RX1 102 "AskedIn$Street" "numbers" "[I" := Or.inl (memT (tin_1 _ (List.mem_of_getElem? (i := 71) rfl)) rfl)
theorem kX5_18 : LinkF RX5 18 "AskedIn$Street" "grains" "[I" := Or.inl (memT (tin_1 _ (List.mem_of_getElem? (i := 72) rfl)) rfl)
theorem kX2_63 : LinkF RX2 63 "AskedIn$Street" "grains" "[I" := Or.inl (memT (tin_1 _ (List.mem_of_getElem? (i := 73) rfl)) rfl)
theorem kX10_80 : LinkF RX10 80 "AskedIn$Street" "grains" "[I" := Or.inl (memT (tin_1 _ (List.mem_of_getElem? (i := 74) rfl)) rfl)
theorem kX5_21 : LinkF RX5 21 "AskedIn$Street" "asked" "[I" := Or.inl (memT (tin_1 _ (List.mem_of_getElem? (i := 75) rfl)) rfl)
theorem kX10_83 : LinkF RX10 83 "AskedIn$Street" "asked" "[I" := Or.inl (memT (tin_1 _ (List.mem_of_getElem? (i := 76) rfl)) rfl)
theorem kX1_99 : LinkF RX1 99 "AskedIn$Street" "asked" "[I" := Or.inl (memT (tin_1 _ (List.mem_of_getElem? (i := 77) rfl)) rfl)
theorem kX5_24 : LinkF RX5 24 "AskedIn$Street" "rows" "[I" := Or.inl (memT (tin_1 _ (List.mem_of_getElem? (i := 78) rfl)) rfl)
theorem kX1_118 : LinkF RX1 118 "AskedIn$Street" "rows" "[I" := Or.inl (memT (tin_1 _ (List.mem_of_getElem? (i := 79) rfl)) rfl)
theorem kX10_113 : LinkF RX10 113 "AskedIn$Street" "rows" "[I" := Or.inl (memT (tin_1 _ (List.mem_of_getElem? (i := 80) rfl)) rfl)
theorem kX5_58 : LinkF RX5 58 "AskedIn$Street" "folks" "I" := Or.inl (memT (tin_1 _ (List.mem_of_getElem? (i := 81) rfl)) rfl)
theorem kX2_109 : LinkF RX2 109 "AskedIn$Street" "folks" "I" := Or.inl (memT (tin_1 _ (List.mem_of_getElem? (i := 82) rfl)) rfl)
theorem kX10_245 : LinkF RX10 245 "AskedIn$Street" "folks" "I" := Or.inl (memT (tin_1 _ (List.mem_of_getElem? (i := 83) rfl)) rfl)
theorem kX5_27 : LinkF RX5 27 "AskedIn$Street" "sacks" "[I" := Or.inl (memT (tin_1 _ (List.mem_of_getElem? (i := 84) rfl)) rfl)
theorem kX1_54 : LinkF RX1 54 "AskedIn$Street" "sacks" "[I" := Or.inl (memT (tin_1 _ (List.mem_of_getElem? (i := 85) rfl)) rfl)
theorem kX10_93 : LinkF RX10 93 "AskedIn$Street" "sacks" "[I" := Or.inl (memT (tin_1 _ (List.mem_of_getElem? (i := 86) rfl)) rfl)
theorem kX2_135 : LinkF RX2 135 "AskedIn$Street" "sacks" "[I" := Or.inl (memT (tin_1 _ (List.mem_of_getElem? (i := 87) rfl)) rfl)
theorem kX5_30 : LinkF RX5 30 "AskedIn$Street" "purses" "[I" := Or.inl (memT (tin_1 _ (List.mem_of_getElem? (i := 88) rfl)) rfl)
theorem kX1_60 : LinkF RX1 60 "AskedIn$Street" "purses" "[I" := Or.inl (memT (tin_1 _ (List.mem_of_getElem? (i := 89) rfl)) rfl)
theorem kX9_46 : LinkF RX9 46 "AskedIn$Street" "purses" "[I" := Or.inl (memT (tin_1 _ (List.mem_of_getElem? (i := 90) rfl)) rfl)
theorem kX10_96 : LinkF RX10 96 "AskedIn$Street" "purses" "[I" := Or.inl (memT (tin_1 _ (List.mem_of_getElem? (i := 91) rfl)) rfl)
theorem kX5_33 : LinkF RX5 33 "AskedIn$Street" "quicknesses" "[I" := Or.inl (memT (tin_1 _ (List.mem_of_getElem? (i := 92) rfl)) rfl)
theorem kX1_39 : LinkF RX1 39 "AskedIn$Street" "quicknesses" "[I" := Or.inl (memT (tin_1 _ (List.mem_of_getElem? (i := 93) rfl)) rfl)
theorem kX10_99 : LinkF RX10 99 "AskedIn$Street" "quicknesses" "[I" := Or.inl (memT (tin_1 _ (List.mem_of_getElem? (i := 94) rfl)) rfl)
theorem kX2_123 : LinkF RX2 123 "AskedIn$Street" "quicknesses" "[I" := Or.inl (memT (tin_1 _ (List.mem_of_getElem? (i := 95) rfl)) rfl)
theorem kX5_41 : LinkF RX5 41 "AskedIn$Street" "plan" "LAskedIn$Rows;" := Or.inl (memT (tin_1 _ (List.mem_of_getElem? (i := 96) rfl)) rfl)
theorem kX2_47 : LinkF RX2 47 "AskedIn$Street" "plan" "LAskedIn$Rows;" := Or.inl (memT (tin_1 _ (List.mem_of_getElem? (i := 97) rfl)) rfl)
theorem kX10_168 : LinkF RX10 168 "AskedIn$Street" "plan" "LAskedIn$Rows;" := Or.inl (memT (tin_1 _ (List.mem_of_getElem? (i := 98) rfl)) rfl)
theorem kX5_45 : LinkF RX5 45 "AskedIn$Street" "watched" "LAskedIn$Rows;" := Or.inl (memT (tin_1 _ (List.mem_of_getElem? (i := 99) rfl)) rfl)
theorem kX2_141 : LinkF RX2 141 "AskedIn$Street" "watched" "LAskedIn$Rows;" := Or.inl (memT (tin_1 _ (List.mem_of_getElem? (i := 100) rfl)) rfl)
theorem kX10_222 : LinkF RX10 222 "AskedIn$Street" "watched" "LAskedIn$Rows;" := Or.inl (memT (tin_1 _ (List.mem_of_getElem? (i := 101) rfl)) rfl)
theorem kX5_48 : LinkF RX5 48 "AskedIn$Street" "visits" "LAskedIn$Rows;" := Or.inl (memT (tin_1 _ (List.mem_of_getElem? (i := 102) rfl)) rfl)
theorem kX2_161 : LinkF RX2 161 "AskedIn$Street" "visits" "LAskedIn$Rows;" := Or.inl (memT (tin_1 _ (List.mem_of_getElem? (i := 103) rfl)) rfl)
theorem kX10_251 : LinkF RX10 251 "AskedIn$Street" "visits" "LAskedIn$Rows;" := Or.inl (memT (tin_1 _ (List.mem_of_getElem? (i := 104) rfl)) rfl)
theorem kX5_51 : LinkF RX5 51 "AskedIn$Street" "held" "I" := Or.inl (memT (tin_1 _ (List.mem_of_getElem? (i := 105) rfl)) rfl)
theorem kX9_49 : LinkF RX9 49 "AskedIn$Street" "held" "I" := Or.inl (memT (tin_1 _ (List.mem_of_getElem? (i := 106) rfl)) rfl)
theorem kX1_85 : LinkF RX1 85 "AskedIn$Street" "held" "I" := Or.inl (memT (tin_1 _ (List.mem_of_getElem? (i := 107) rfl)) rfl)
theorem kX10_146 : LinkF RX10 146 "AskedIn$Street" "held" "I" := Or.inl (memT (tin_1 _ (List.mem_of_getElem? (i := 108) rfl)) rfl)
theorem kX10_18 : Cond.classLink RX10 18 "AskedIn$Text" ∈ tblG := memT (tin_1 _ (List.mem_of_getElem? (i := 138) rfl)) rfl
theorem kX10_20 : LinkM RX10 20 yX7_init := Or.inr ⟨"AskedIn", List.mem_of_getElem? (i := 1) rfl⟩
theorem kX7_3 : LinkM RX7 3 ⟨"java/lang/Object", "<init>", "()V"⟩ := Or.inl (memT (tin_1 _ (List.mem_of_getElem? (i := 143) rfl)) rfl)
theorem kX7_9 : LinkF RX7 9 "AskedIn$Text" "signs" "[B" := Or.inl (memT (tin_1 _ (List.mem_of_getElem? (i := 144) rfl)) rfl)
theorem kX7_19 : LinkF RX7 19 "AskedIn$Text" "length" "I" := Or.inl (memT (tin_1 _ (List.mem_of_getElem? (i := 145) rfl)) rfl)
theorem kX10_132 : LinkF RX10 132 "AskedIn$Text" "length" "I" := Or.inl (memT (tin_1 _ (List.mem_of_getElem? (i := 146) rfl)) rfl)
theorem kX7_22 : LinkF RX7 22 "AskedIn$Text" "at" "I" := Or.inl (memT (tin_1 _ (List.mem_of_getElem? (i := 147) rfl)) rfl)
theorem kX7_15 : LinkF RX7 15 "AskedIn$Text" "fault" "I" := Or.inl (memT (tin_1 _ (List.mem_of_getElem? (i := 148) rfl)) rfl)
theorem kX10_135 : LinkF RX10 135 "AskedIn$Text" "fault" "I" := Or.inl (memT (tin_1 _ (List.mem_of_getElem? (i := 149) rfl)) rfl)
theorem kX7_25 : LinkF RX7 25 "AskedIn$Text" "tokens" "[I" := Or.inl (memT (tin_1 _ (List.mem_of_getElem? (i := 150) rfl)) rfl)
theorem kX7_29 : LinkF RX7 29 "AskedIn$Text" "noted" "I" := Or.inl (memT (tin_1 _ (List.mem_of_getElem? (i := 151) rfl)) rfl)
theorem kX10_138 : LinkF RX10 138 "AskedIn$Text" "noted" "I" := Or.inl (memT (tin_1 _ (List.mem_of_getElem? (i := 152) rfl)) rfl)
theorem kX7_32 : LinkF RX7 32 "AskedIn$Text" "dawn" "I" := Or.inl (memT (tin_1 _ (List.mem_of_getElem? (i := 153) rfl)) rfl)
theorem kX10_141 : LinkF RX10 141 "AskedIn$Text" "dawn" "I" := Or.inl (memT (tin_1 _ (List.mem_of_getElem? (i := 154) rfl)) rfl)
theorem kX10_25 : Cond.classLink RX10 25 "AskedIn$Acts" ∈ tblG := memT (tin_1 _ (List.mem_of_getElem? (i := 171) rfl)) rfl
theorem kX10_27 : LinkM RX10 27 yX0_init := Or.inr ⟨"AskedIn", List.mem_of_getElem? (i := 2) rfl⟩
theorem kX0_3 : LinkM RX0 3 ⟨"java/lang/Object", "<init>", "()V"⟩ := Or.inl (memT (tin_1 _ (List.mem_of_getElem? (i := 176) rfl)) rfl)
theorem kX0_11 : LinkF RX0 11 "AskedIn$Acts" "begun" "[I" := Or.inl (memT (tin_1 _ (List.mem_of_getElem? (i := 177) rfl)) rfl)
theorem kX0_15 : LinkF RX0 15 "AskedIn$Acts" "ran" "I" := Or.inl (memT (tin_1 _ (List.mem_of_getElem? (i := 178) rfl)) rfl)
theorem kX10_289 : LinkF RX10 289 "AskedIn$Acts" "ran" "I" := Or.inl (memT (tin_1 _ (List.mem_of_getElem? (i := 179) rfl)) rfl)
theorem kX0_29 : LinkF RX0 29 "AskedIn$Acts" "number" "I" := Or.inl (memT (tin_1 _ (List.mem_of_getElem? (i := 180) rfl)) rfl)
theorem kX0_37 : LinkF RX0 37 "AskedIn$Acts" "kind" "I" := Or.inl (memT (tin_1 _ (List.mem_of_getElem? (i := 181) rfl)) rfl)
theorem kX0_43 : LinkF RX0 43 "AskedIn$Acts" "v" "I" := Or.inl (memT (tin_1 _ (List.mem_of_getElem? (i := 182) rfl)) rfl)
theorem kX10_32 : Cond.classLink RX10 32 "AskedIn$Tapes" ∈ tblG := memT (tin_1 _ (List.mem_of_getElem? (i := 194) rfl)) rfl
theorem kX10_34 : LinkM RX10 34 yX6_init := Or.inr ⟨"AskedIn", List.mem_of_getElem? (i := 3) rfl⟩
theorem kX6_3 : LinkM RX6 3 ⟨"java/lang/Object", "<init>", "()V"⟩ := Or.inl (memT (tin_1 _ (List.mem_of_getElem? (i := 199) rfl)) rfl)
theorem kX6_11 : Cond.classLink RX6 11 "[[J" ∈ tblG := memT (tin_1 _ (List.mem_of_getElem? (i := 200) rfl)) rfl
theorem kX6_13 : LinkF RX6 13 "AskedIn$Tapes" "items" "[[J" := Or.inl (memT (tin_1 _ (List.mem_of_getElem? (i := 202) rfl)) rfl)
theorem kX10_263 : LinkF RX10 263 "AskedIn$Tapes" "items" "[[J" := Or.inl (memT (tin_1 _ (List.mem_of_getElem? (i := 203) rfl)) rfl)
theorem kX6_16 : LinkF RX6 16 "AskedIn$Tapes" "sizes" "[I" := Or.inl (memT (tin_1 _ (List.mem_of_getElem? (i := 204) rfl)) rfl)
theorem kX10_260 : LinkF RX10 260 "AskedIn$Tapes" "sizes" "[I" := Or.inl (memT (tin_1 _ (List.mem_of_getElem? (i := 205) rfl)) rfl)
theorem kX6_20 : LinkF RX6 20 "AskedIn$Tapes" "sorts" "[I" := Or.inl (memT (tin_1 _ (List.mem_of_getElem? (i := 206) rfl)) rfl)
theorem kX10_257 : LinkF RX10 257 "AskedIn$Tapes" "sorts" "[I" := Or.inl (memT (tin_1 _ (List.mem_of_getElem? (i := 207) rfl)) rfl)
theorem kX10_39 : Cond.classLink RX10 39 "AskedIn$Towns" ∈ tblG := memT (tin_1 _ (List.mem_of_getElem? (i := 216) rfl)) rfl
theorem kX10_41 : LinkM RX10 41 yX9_init := Or.inr ⟨"AskedIn", List.mem_of_getElem? (i := 4) rfl⟩
theorem kX9_3 : LinkM RX9 3 ⟨"java/lang/Object", "<init>", "()V"⟩ := Or.inl (memT (tin_1 _ (List.mem_of_getElem? (i := 221) rfl)) rfl)
theorem kX9_9 : Cond.classLink RX9 9 "[[I" ∈ tblG := memT (tin_1 _ (List.mem_of_getElem? (i := 222) rfl)) rfl
theorem kX9_11 : LinkF RX9 11 "AskedIn$Towns" "tokens" "[[I" := Or.inl (memT (tin_1 _ (List.mem_of_getElem? (i := 224) rfl)) rfl)
theorem kX10_124 : LinkF RX10 124 "AskedIn$Towns" "tokens" "[[I" := Or.inl (memT (tin_1 _ (List.mem_of_getElem? (i := 225) rfl)) rfl)
theorem kX9_16 : LinkF RX9 16 "AskedIn$Towns" "lengths" "[I" := Or.inl (memT (tin_1 _ (List.mem_of_getElem? (i := 226) rfl)) rfl)
theorem kX9_20 : LinkF RX9 20 "AskedIn$Towns" "dawns" "[I" := Or.inl (memT (tin_1 _ (List.mem_of_getElem? (i := 227) rfl)) rfl)
theorem kX9_28 : LinkF RX9 28 "AskedIn$Towns" "size" "I" := Or.inl (memT (tin_1 _ (List.mem_of_getElem? (i := 228) rfl)) rfl)
theorem kX10_120 : LinkF RX10 120 "AskedIn$Towns" "size" "I" := Or.inl (memT (tin_1 _ (List.mem_of_getElem? (i := 229) rfl)) rfl)
theorem kX9_25 : LinkF RX9 25 "AskedIn$Towns" "letters" "[I" := Or.inl (memT (tin_1 _ (List.mem_of_getElem? (i := 230) rfl)) rfl)
theorem kX1_36 : LinkF RX1 36 "AskedIn$Towns" "slow" "I" := Or.inl (memT (tin_1 _ (List.mem_of_getElem? (i := 231) rfl)) rfl)
theorem kX9_52 : LinkF RX9 52 "AskedIn$Towns" "slow" "I" := Or.inl (memT (tin_1 _ (List.mem_of_getElem? (i := 232) rfl)) rfl)
theorem kX2_126 : LinkF RX2 126 "AskedIn$Towns" "slow" "I" := Or.inl (memT (tin_1 _ (List.mem_of_getElem? (i := 233) rfl)) rfl)
theorem kX10_309 : LinkF RX10 309 "AskedIn$Towns" "slow" "I" := Or.inl (memT (tin_1 _ (List.mem_of_getElem? (i := 234) rfl)) rfl)
theorem kX1_32 : LinkF RX1 32 "AskedIn$Towns" "far" "I" := Or.inl (memT (tin_1 _ (List.mem_of_getElem? (i := 235) rfl)) rfl)
theorem kX9_55 : LinkF RX9 55 "AskedIn$Towns" "far" "I" := Or.inl (memT (tin_1 _ (List.mem_of_getElem? (i := 236) rfl)) rfl)
theorem kX2_132 : LinkF RX2 132 "AskedIn$Towns" "far" "I" := Or.inl (memT (tin_1 _ (List.mem_of_getElem? (i := 237) rfl)) rfl)
theorem kX10_312 : LinkF RX10 312 "AskedIn$Towns" "far" "I" := Or.inl (memT (tin_1 _ (List.mem_of_getElem? (i := 238) rfl)) rfl)
theorem kX10_49 : Cond.classLink RX10 49 "AskedIn$Questions" ∈ tblG := memT (tin_2 _ (List.mem_of_getElem? (i := 14) rfl)) rfl
theorem kX10_51 : LinkM RX10 51 yX2_init := Or.inl (memT (tin_2 _ (List.mem_of_getElem? (i := 16) rfl)) rfl)
theorem kX2_3 : LinkM RX2 3 ⟨"java/lang/Object", "<init>", "()V"⟩ := Or.inl (memT (tin_2 _ (List.mem_of_getElem? (i := 19) rfl)) rfl)
theorem kX2_9 : Cond.classLink RX2 9 "AskedIn$Round" ∈ tblG := memT (tin_2 _ (List.mem_of_getElem? (i := 20) rfl)) rfl
theorem kX2_11 : LinkM RX2 11 yX3_init := Or.inr ⟨"AskedIn", List.mem_of_getElem? (i := 5) rfl⟩
theorem kX3_3 : LinkM RX3 3 ⟨"java/lang/Object", "<init>", "()V"⟩ := Or.inl (memT (tin_2 _ (List.mem_of_getElem? (i := 25) rfl)) rfl)
theorem kX3_9 : LinkF RX3 9 "AskedIn$Round" "row" "[I" := Or.inl (memT (tin_2 _ (List.mem_of_getElem? (i := 26) rfl)) rfl)
theorem kX10_200 : LinkF RX10 200 "AskedIn$Round" "row" "[I" := Or.inl (memT (tin_2 _ (List.mem_of_getElem? (i := 27) rfl)) rfl)
theorem kX3_15 : LinkF RX3 15 "AskedIn$Round" "order" "[I" := Or.inl (memT (tin_2 _ (List.mem_of_getElem? (i := 28) rfl)) rfl)
theorem kX2_71 : LinkF RX2 71 "AskedIn$Round" "order" "[I" := Or.inr ⟨"AskedIn", List.mem_of_getElem? (i := 6) rfl⟩
theorem kX3_18 : LinkF RX3 18 "AskedIn$Round" "size" "I" := Or.inl (memT (tin_2 _ (List.mem_of_getElem? (i := 30) rfl)) rfl)
theorem kX2_70 : LinkF RX2 70 "AskedIn$Round" "size" "I" := Or.inl (memT (tin_2 _ (List.mem_of_getElem? (i := 31) rfl)) rfl)
theorem kX10_197 : LinkF RX10 197 "AskedIn$Round" "size" "I" := Or.inl (memT (tin_2 _ (List.mem_of_getElem? (i := 32) rfl)) rfl)
theorem kX3_22 : LinkF RX3 22 "AskedIn$Round" "ins" "I" := Or.inl (memT (tin_2 _ (List.mem_of_getElem? (i := 33) rfl)) rfl)
theorem kX10_203 : LinkF RX10 203 "AskedIn$Round" "ins" "I" := Or.inl (memT (tin_2 _ (List.mem_of_getElem? (i := 34) rfl)) rfl)
theorem kX3_25 : LinkF RX3 25 "AskedIn$Round" "minute" "I" := Or.inl (memT (tin_2 _ (List.mem_of_getElem? (i := 35) rfl)) rfl)
theorem kX10_206 : LinkF RX10 206 "AskedIn$Round" "minute" "I" := Or.inl (memT (tin_2 _ (List.mem_of_getElem? (i := 36) rfl)) rfl)
theorem kX2_26 : Cond.classLink RX2 26 "AskedIn$Night" ∈ tblG := memT (tin_2 _ (List.mem_of_getElem? (i := 48) rfl)) rfl
theorem kX2_28 : LinkM RX2 28 yX1_init := Or.inl (memT (tin_2 _ (List.mem_of_getElem? (i := 50) rfl)) rfl)
theorem kX1_3 : LinkM RX1 3 ⟨"java/lang/Object", "<init>", "()V"⟩ := Or.inl (memT (tin_2 _ (List.mem_of_getElem? (i := 53) rfl)) rfl)
theorem kX1_18 : LinkF RX1 18 "AskedIn$Night" "street" "LAskedIn$Street;" := Or.inl (memT (tin_2 _ (List.mem_of_getElem? (i := 54) rfl)) rfl)
theorem kX1_22 : LinkF RX1 22 "AskedIn$Night" "towns" "LAskedIn$Towns;" := Or.inl (memT (tin_2 _ (List.mem_of_getElem? (i := 55) rfl)) rfl)
theorem kX1_9 : LinkF RX1 9 "AskedIn$Night" "fars" "[I" := Or.inl (memT (tin_2 _ (List.mem_of_getElem? (i := 56) rfl)) rfl)
theorem kX1_15 : LinkF RX1 15 "AskedIn$Night" "countings" "[I" := Or.inl (memT (tin_2 _ (List.mem_of_getElem? (i := 57) rfl)) rfl)
theorem kX1_48 : LinkF RX1 48 "AskedIn$Night" "one" "I" := Or.inl (memT (tin_2 _ (List.mem_of_getElem? (i := 58) rfl)) rfl)
theorem kX1_57 : LinkF RX1 57 "AskedIn$Night" "place" "I" := Or.inl (memT (tin_2 _ (List.mem_of_getElem? (i := 59) rfl)) rfl)
theorem kX1_69 : LinkF RX1 69 "AskedIn$Night" "counted" "I" := Or.inl (memT (tin_2 _ (List.mem_of_getElem? (i := 60) rfl)) rfl)
theorem kX1_51 : LinkF RX1 51 "AskedIn$Night" "minute" "I" := Or.inl (memT (tin_2 _ (List.mem_of_getElem? (i := 61) rfl)) rfl)
theorem kX2_83 : LinkF RX2 83 "AskedIn$Night" "minute" "I" := Or.inl (memT (tin_2 _ (List.mem_of_getElem? (i := 62) rfl)) rfl)
theorem kX10_160 : LinkF RX10 160 "AskedIn$Night" "minute" "I" := Or.inl (memT (tin_2 _ (List.mem_of_getElem? (i := 63) rfl)) rfl)
theorem kX1_63 : LinkF RX1 63 "AskedIn$Night" "coins" "I" := Or.inl (memT (tin_2 _ (List.mem_of_getElem? (i := 64) rfl)) rfl)
theorem kX10_165 : LinkF RX10 165 "AskedIn$Night" "coins" "I" := Or.inl (memT (tin_2 _ (List.mem_of_getElem? (i := 65) rfl)) rfl)
theorem kX1_66 : LinkF RX1 66 "AskedIn$Night" "in" "I" := Or.inl (memT (tin_2 _ (List.mem_of_getElem? (i := 66) rfl)) rfl)
theorem kX2_74 : LinkF RX2 74 "AskedIn$Night" "in" "I" := Or.inl (memT (tin_2 _ (List.mem_of_getElem? (i := 67) rfl)) rfl)
theorem kX10_182 : LinkF RX10 182 "AskedIn$Night" "in" "I" := Or.inl (memT (tin_2 _ (List.mem_of_getElem? (i := 68) rfl)) rfl)
theorem kX2_18 : LinkF RX2 18 "AskedIn$Questions" "street" "LAskedIn$Street;" := Or.inl (memT (tin_2 _ (List.mem_of_getElem? (i := 90) rfl)) rfl)
theorem kX2_22 : LinkF RX2 22 "AskedIn$Questions" "towns" "LAskedIn$Towns;" := Or.inl (memT (tin_2 _ (List.mem_of_getElem? (i := 91) rfl)) rfl)
theorem kX2_31 : LinkF RX2 31 "AskedIn$Questions" "night" "LAskedIn$Night;" := Or.inl (memT (tin_2 _ (List.mem_of_getElem? (i := 92) rfl)) rfl)
theorem kX10_156 : LinkF RX10 156 "AskedIn$Questions" "night" "LAskedIn$Night;" := Or.inl (memT (tin_2 _ (List.mem_of_getElem? (i := 93) rfl)) rfl)
theorem kX2_12 : LinkF RX2 12 "AskedIn$Questions" "best" "LAskedIn$Round;" := Or.inl (memT (tin_2 _ (List.mem_of_getElem? (i := 94) rfl)) rfl)
theorem kX10_42 : LinkF RX10 42 "AskedIn" "now" "LAskedIn$Street;" := Or.inl (memT (tin_2 _ (List.mem_of_getElem? (i := 104) rfl)) rfl)
theorem kX10_12 : LinkF RX10 12 "AskedIn" "kept" "LAskedIn$Street;" := Or.inl (memT (tin_2 _ (List.mem_of_getElem? (i := 105) rfl)) rfl)
theorem kX10_271 : LinkF RX10 271 "AskedIn" "hasImage" "Z" := Or.inl (memT (tin_2 _ (List.mem_of_getElem? (i := 106) rfl)) rfl)
theorem kX10_21 : LinkF RX10 21 "AskedIn" "text" "LAskedIn$Text;" := Or.inl (memT (tin_2 _ (List.mem_of_getElem? (i := 107) rfl)) rfl)
theorem kX10_45 : LinkF RX10 45 "AskedIn" "towns" "LAskedIn$Towns;" := Or.inl (memT (tin_2 _ (List.mem_of_getElem? (i := 108) rfl)) rfl)
theorem kX10_54 : LinkF RX10 54 "AskedIn" "questions" "LAskedIn$Questions;" := Or.inl (memT (tin_2 _ (List.mem_of_getElem? (i := 109) rfl)) rfl)
theorem kX10_28 : LinkF RX10 28 "AskedIn" "acts" "LAskedIn$Acts;" := Or.inl (memT (tin_2 _ (List.mem_of_getElem? (i := 110) rfl)) rfl)
theorem kX10_35 : LinkF RX10 35 "AskedIn" "tapes" "LAskedIn$Tapes;" := Or.inl (memT (tin_2 _ (List.mem_of_getElem? (i := 111) rfl)) rfl)
theorem kL_13 : LinkM RL 13 yX10_house := Or.inl (memT (tin_2 _ (List.mem_of_getElem? (i := 129) rfl)) rfl)
theorem kX10_58 : LinkM RX10 58 yX10_isUpTo := Or.inl (memT (tin_2 _ (List.mem_of_getElem? (i := 133) rfl)) rfl)
theorem kX10_62 : LinkM RX10 62 yX5_build := Or.inl (memT (tin_2 _ (List.mem_of_getElem? (i := 136) rfl)) rfl)
theorem kX5_61 : LinkM RX5 61 yX5_settle := Or.inl (memT (tin_2 _ (List.mem_of_getElem? (i := 140) rfl)) rfl)
theorem kL_18 : LinkM RL 18 yX10_folk := Or.inl (memT (tin_2 _ (List.mem_of_getElem? (i := 144) rfl)) rfl)
theorem kX10_66 : LinkM RX10 66 yX5_hasHouse := Or.inl (memT (tin_2 _ (List.mem_of_getElem? (i := 148) rfl)) rfl)
theorem kX10_70 : LinkM RX10 70 yX5_wake := Or.inl (memT (tin_2 _ (List.mem_of_getElem? (i := 152) rfl)) rfl)
theorem kL_22 : LinkM RL 22 yX10_of := Or.inl (memT (tin_2 _ (List.mem_of_getElem? (i := 156) rfl)) rfl)
theorem kX10_86 : LinkM RX10 86 yX10_paceAt := Or.inl (memT (tin_2 _ (List.mem_of_getElem? (i := 160) rfl)) rfl)
theorem kX10_90 : LinkM RX10 90 yX5_hasFolk := Or.inl (memT (tin_2 _ (List.mem_of_getElem? (i := 164) rfl)) rfl)
theorem kX10_305 : LinkM RX10 305 yX9_weigh := Or.inl (memT (tin_2 _ (List.mem_of_getElem? (i := 168) rfl)) rfl)
theorem kX9_32 : LinkM RX9 32 yX10_isUpTo := Or.inr ⟨"AskedIn", List.mem_of_getElem? (i := 7) rfl⟩
theorem kX9_58 : LinkM RX9 58 yX9_holds := Or.inl (memT (tin_2 _ (List.mem_of_getElem? (i := 173) rfl)) rfl)
theorem kL_27 : LinkM RL 27 yX10_who := Or.inl (memT (tin_2 _ (List.mem_of_getElem? (i := 177) rfl)) rfl)
theorem kL_31 : LinkM RL 31 yX10_strew := Or.inl (memT (tin_2 _ (List.mem_of_getElem? (i := 181) rfl)) rfl)
theorem kL_35 : LinkM RL 35 yX10_ask := Or.inl (memT (tin_2 _ (List.mem_of_getElem? (i := 185) rfl)) rfl)
theorem kX10_102 : LinkM RX10 102 yX10_bit := Or.inl (memT (tin_2 _ (List.mem_of_getElem? (i := 189) rfl)) rfl)
theorem kX10_105 : LinkM RX10 105 yX10_withBit := Or.inl (memT (tin_2 _ (List.mem_of_getElem? (i := 192) rfl)) rfl)
theorem kL_40 : LinkM RL 40 yX10_sack := Or.inl (memT (tin_2 _ (List.mem_of_getElem? (i := 195) rfl)) rfl)
theorem kL_44 : LinkM RL 44 yX10_sell := Or.inl (memT (tin_2 _ (List.mem_of_getElem? (i := 199) rfl)) rfl)
theorem kX10_109 : LinkM RX10 109 yX5_settle := Or.inl (memT (tin_2 _ (List.mem_of_getElem? (i := 203) rfl)) rfl)
theorem kL_48 : LinkM RL 48 yX10_row := Or.inl (memT (tin_2 _ (List.mem_of_getElem? (i := 204) rfl)) rfl)
theorem kL_52 : LinkM RL 52 yX10_feed := Or.inl (memT (tin_2 _ (List.mem_of_getElem? (i := 208) rfl)) rfl)
theorem kX10_116 : LinkM RX10 116 yX7_add := Or.inl (memT (tin_2 _ (List.mem_of_getElem? (i := 212) rfl)) rfl)
theorem kL_57 : LinkM RL 57 yX10_town := Or.inl (memT (tin_2 _ (List.mem_of_getElem? (i := 216) rfl)) rfl)
theorem kX10_128 : LinkM RX10 128 yX7_compile := Or.inl (memT (tin_2 _ (List.mem_of_getElem? (i := 220) rfl)) rfl)
theorem kX7_35 : LinkM RX7 35 yX7_clause := Or.inl (memT (tin_2 _ (List.mem_of_getElem? (i := 224) rfl)) rfl)
theorem kX7_38 : LinkM RX7 38 yX7_take := Or.inl (memT (tin_2 _ (List.mem_of_getElem? (i := 228) rfl)) rfl)
theorem kX7_50 : LinkM RX7 50 yX7_word := Or.inl (memT (tin_2 _ (List.mem_of_getElem? (i := 235) rfl)) rfl)
theorem kX7_83 : LinkM RX7 83 yJ0_length_8abf5 := Or.inl (memT (tin_2 _ (List.mem_of_getElem? (i := 239) rfl)) rfl)
theorem kJ0_335 : LinkM RJ0 335 yJ0_coder_7d493 := Or.inl (memT (tin_3 _ (List.mem_of_getElem? (i := 3) rfl)) rfl)
theorem kJ0_38 : LinkF RJ0 38 "java/lang/String" "COMPACT_STRINGS" "Z" := Or.inl (memT (tin_3 _ (List.mem_of_getElem? (i := 7) rfl)) rfl)
theorem kX7_87 : LinkM RX7 87 yJ0_charAt_5068e := Or.inl (memT (tin_3 _ (List.mem_of_getElem? (i := 9) rfl)) rfl)
theorem kJ0_492 : LinkM RJ0 492 yJ0_isLatin1_aae02 := Or.inl (memT (tin_3 _ (List.mem_of_getElem? (i := 13) rfl)) rfl)
theorem kJ0_495 : LinkM RJ0 495 yJ1_charAt_3b067 := Or.inl (memT (tin_3 _ (List.mem_of_getElem? (i := 17) rfl)) rfl)
theorem kJ1_9 : LinkM RJ1 9 yJ0_checkIndex_df160 := Or.inl (memT (tin_3 _ (List.mem_of_getElem? (i := 20) rfl)) rfl)
theorem kJ0_1053 : LinkF RJ0 1053 "jdk/internal/util/Preconditions" "SIOOBE_FORMATTER" "Ljava/util/function/BiFunction;" := Or.inl (memT (tin_3 _ (List.mem_of_getElem? (i := 23) rfl)) rfl)
theorem kJ0_1059 : LinkM RJ0 1059 yJ3_checkIndex_8e157 := Or.inl (memT (tin_3 _ (List.mem_of_getElem? (i := 25) rfl)) rfl)
theorem kJ0_498 : LinkM RJ0 498 yJ2_charAt_3b067 := Or.inl (memT (tin_3 _ (List.mem_of_getElem? (i := 28) rfl)) rfl)
theorem kJ2_67 : LinkM RJ2 67 yJ2_checkIndex_2214a := Or.inl (memT (tin_3 _ (List.mem_of_getElem? (i := 31) rfl)) rfl)
theorem kJ2_48 : LinkM RJ2 48 yJ2_length_9d52b := Or.inl (memT (tin_3 _ (List.mem_of_getElem? (i := 34) rfl)) rfl)
theorem kJ2_414 : LinkM RJ2 414 yJ0_checkIndex_df160 := Or.inl (memT (tin_3 _ (List.mem_of_getElem? (i := 37) rfl)) rfl)
theorem kJ2_71 : LinkM RJ2 71 yJ2_getChar_3b067 := Or.inl (memT (tin_3 _ (List.mem_of_getElem? (i := 38) rfl)) rfl)
theorem kJ2_44 : LinkF RJ2 44 "java/lang/StringUTF16" "$assertionsDisabled" "Z" := Or.inl (memT (tin_3 _ (List.mem_of_getElem? (i := 41) rfl)) rfl)
theorem kJ2_59 : LinkF RJ2 59 "java/lang/StringUTF16" "HI_BYTE_SHIFT" "I" := Or.inl (memT (tin_3 _ (List.mem_of_getElem? (i := 43) rfl)) rfl)
theorem kJ2_63 : LinkF RJ2 63 "java/lang/StringUTF16" "LO_BYTE_SHIFT" "I" := Or.inl (memT (tin_3 _ (List.mem_of_getElem? (i := 45) rfl)) rfl)
theorem kX7_54 : LinkM RX7 54 yX7_number := Or.inl (memT (tin_3 _ (List.mem_of_getElem? (i := 47) rfl)) rfl)
theorem kX7_75 : LinkM RX7 75 yX7_choice := Or.inl (memT (tin_3 _ (List.mem_of_getElem? (i := 52) rfl)) rfl)
theorem kX7_91 : LinkM RX7 91 yJ0_indexOf_0f7a4 := Or.inl (memT (tin_3 _ (List.mem_of_getElem? (i := 56) rfl)) rfl)
theorem kJ0_633 : LinkM RJ0 633 yJ0_indexOf_7cf53 := Or.inl (memT (tin_3 _ (List.mem_of_getElem? (i := 60) rfl)) rfl)
theorem kJ0_505 : LinkM RJ0 505 yJ0_length_8abf5 := Or.inl (memT (tin_3 _ (List.mem_of_getElem? (i := 64) rfl)) rfl)
theorem kJ0_637 : LinkM RJ0 637 yJ1_indexOf_4cfef := Or.inl (memT (tin_3 _ (List.mem_of_getElem? (i := 65) rfl)) rfl)
theorem kJ1_88 : LinkM RJ1 88 yJ1_canEncode_9a6ad := Or.inl (memT (tin_3 _ (List.mem_of_getElem? (i := 68) rfl)) rfl)
theorem kJ1_92 : LinkM RJ1 92 yJ9_max_7cf53 := Or.inl (memT (tin_3 _ (List.mem_of_getElem? (i := 71) rfl)) rfl)
theorem kJ1_38 : LinkM RJ1 38 yJ9_min_7cf53 := Or.inl (memT (tin_3 _ (List.mem_of_getElem? (i := 72) rfl)) rfl)
theorem kJ1_95 : LinkM RJ1 95 yJ1_indexOfChar_4cfef := Or.inl (memT (tin_3 _ (List.mem_of_getElem? (i := 75) rfl)) rfl)
theorem kJ0_640 : LinkM RJ0 640 yJ2_indexOf_4cfef := Or.inl (memT (tin_3 _ (List.mem_of_getElem? (i := 78) rfl)) rfl)
theorem kJ2_224 : LinkM RJ2 224 yJ9_max_7cf53 := Or.inl (memT (tin_3 _ (List.mem_of_getElem? (i := 81) rfl)) rfl)
theorem kJ2_183 : LinkM RJ2 183 yJ9_min_7cf53 := Or.inl (memT (tin_3 _ (List.mem_of_getElem? (i := 82) rfl)) rfl)
theorem kJ2_227 : Cond.constant RJ2 227 (65536) ∈ tblG := memT (tin_3 _ (List.mem_of_getElem? (i := 83) rfl)) rfl
theorem kJ2_228 : LinkM RJ2 228 yJ2_indexOfChar_4cfef := Or.inl (memT (tin_3 _ (List.mem_of_getElem? (i := 84) rfl)) rfl)
theorem kJ2_96 : LinkM RJ2 96 yJ2_checkBoundsBeginEnd_d044e := Or.inl (memT (tin_3 _ (List.mem_of_getElem? (i := 87) rfl)) rfl)
theorem kJ2_241 : LinkM RJ2 241 yJ0_checkBoundsBeginEnd_23922 := Or.inl (memT (tin_3 _ (List.mem_of_getElem? (i := 90) rfl)) rfl)
theorem kJ0_1062 : LinkM RJ0 1062 yJ3_checkFromToIndex_8c36e := Or.inl (memT (tin_3 _ (List.mem_of_getElem? (i := 93) rfl)) rfl)
theorem kJ2_244 : LinkM RJ2 244 yJ2_indexOfCharUnsafe_4cfef := Or.inl (memT (tin_3 _ (List.mem_of_getElem? (i := 96) rfl)) rfl)
theorem kJ2_232 : LinkM RJ2 232 yJ2_indexOfSupplementary_4cfef := Or.inl (memT (tin_3 _ (List.mem_of_getElem? (i := 99) rfl)) rfl)
theorem kJ2_164 : LinkM RJ2 164 yJ11_isValidCodePoint_9a6ad := Or.inl (memT (tin_3 _ (List.mem_of_getElem? (i := 102) rfl)) rfl)
theorem kJ2_157 : LinkM RJ2 157 yJ11_highSurrogate_5068e := Or.inl (memT (tin_3 _ (List.mem_of_getElem? (i := 105) rfl)) rfl)
theorem kJ11_110 : Cond.constant RJ11 110 (55232) ∈ tblG := memT (tin_3 _ (List.mem_of_getElem? (i := 108) rfl)) rfl
theorem kJ2_161 : LinkM RJ2 161 yJ11_lowSurrogate_5068e := Or.inl (memT (tin_3 _ (List.mem_of_getElem? (i := 109) rfl)) rfl)
theorem kJ11_76 : Cond.constant RJ11 76 (56320) ∈ tblG := memT (tin_3 _ (List.mem_of_getElem? (i := 112) rfl)) rfl
theorem kX7_60 : LinkM RX7 60 yX7_either := Or.inl (memT (tin_3 _ (List.mem_of_getElem? (i := 114) rfl)) rfl)
theorem kX7_68 : LinkM RX7 68 yX7_part := Or.inl (memT (tin_3 _ (List.mem_of_getElem? (i := 118) rfl)) rfl)
theorem kX7_64 : LinkM RX7 64 yX7_note := Or.inl (memT (tin_3 _ (List.mem_of_getElem? (i := 122) rfl)) rfl)
theorem kX10_144 : LinkM RX10 144 yX9_add := Or.inl (memT (tin_3 _ (List.mem_of_getElem? (i := 129) rfl)) rfl)
theorem kL_62 : LinkM RL 62 yX10_dawn := Or.inl (memT (tin_3 _ (List.mem_of_getElem? (i := 133) rfl)) rfl)
theorem kX10_149 : LinkM RX10 149 yX9_dawnOf := Or.inl (memT (tin_3 _ (List.mem_of_getElem? (i := 137) rfl)) rfl)
theorem kL_66 : LinkM RL 66 yX10_visit := Or.inl (memT (tin_3 _ (List.mem_of_getElem? (i := 141) rfl)) rfl)
theorem kX10_152 : LinkM RX10 152 yX2_comesIn := Or.inl (memT (tin_3 _ (List.mem_of_getElem? (i := 145) rfl)) rfl)
theorem kX2_35 : LinkM RX2 35 yX1_measure := Or.inl (memT (tin_3 _ (List.mem_of_getElem? (i := 149) rfl)) rfl)
theorem kX1_26 : LinkM RX1 26 yX9_weigh := Or.inl (memT (tin_3 _ (List.mem_of_getElem? (i := 153) rfl)) rfl)
theorem kX1_44 : LinkM RX1 44 yX10_roundedUp := Or.inr ⟨"AskedIn", List.mem_of_getElem? (i := 8) rfl⟩
theorem kX2_39 : LinkM RX2 39 yX1_begin := Or.inl (memT (tin_3 _ (List.mem_of_getElem? (i := 157) rfl)) rfl)
theorem kX2_43 : LinkM RX2 43 yX1_reach := Or.inl (memT (tin_3 _ (List.mem_of_getElem? (i := 161) rfl)) rfl)
theorem kX1_72 : LinkM RX1 72 yJ9_abs_0f7a4 := Or.inl (memT (tin_3 _ (List.mem_of_getElem? (i := 165) rfl)) rfl)
theorem kX1_78 : LinkM RX1 78 yX10_bit := Or.inr ⟨"AskedIn", List.mem_of_getElem? (i := 9) rfl⟩
theorem kX1_81 : LinkM RX1 81 yX10_withBit := Or.inr ⟨"AskedIn", List.mem_of_getElem? (i := 10) rfl⟩
theorem kX1_88 : LinkM RX1 88 yX9_dawnOf := Or.inl (memT (tin_3 _ (List.mem_of_getElem? (i := 170) rfl)) rfl)
theorem kX1_91 : LinkM RX1 91 yX1_isLet := Or.inl (memT (tin_3 _ (List.mem_of_getElem? (i := 171) rfl)) rfl)
theorem kX1_108 : LinkM RX1 108 yX1_isLate := Or.inl (memT (tin_3 _ (List.mem_of_getElem? (i := 175) rfl)) rfl)
theorem kX1_111 : LinkM RX1 111 yX1_isKnown := Or.inl (memT (tin_3 _ (List.mem_of_getElem? (i := 179) rfl)) rfl)
theorem kX1_121 : LinkM RX1 121 yJ6_bitCount_0f7a4 := Or.inl (memT (tin_3 _ (List.mem_of_getElem? (i := 183) rfl)) rfl)
theorem kJ6_265 : Cond.constant RJ6 265 (1431655765) ∈ tblG := memT (tin_3 _ (List.mem_of_getElem? (i := 186) rfl)) rfl
theorem kJ6_266 : Cond.constant RJ6 266 (858993459) ∈ tblG := memT (tin_3 _ (List.mem_of_getElem? (i := 187) rfl)) rfl
theorem kJ6_267 : Cond.constant RJ6 267 (252645135) ∈ tblG := memT (tin_3 _ (List.mem_of_getElem? (i := 188) rfl)) rfl
theorem kX1_115 : LinkM RX1 115 yX1_pays := Or.inl (memT (tin_3 _ (List.mem_of_getElem? (i := 189) rfl)) rfl)
theorem kL_70 : LinkM RL 70 yX10_way := Or.inl (memT (tin_3 _ (List.mem_of_getElem? (i := 193) rfl)) rfl)
theorem kX10_172 : LinkM RX10 172 yX4_empty := Or.inl (memT (tin_3 _ (List.mem_of_getElem? (i := 197) rfl)) rfl)
theorem kX10_178 : LinkM RX10 178 yX4_add := Or.inl (memT (tin_3 _ (List.mem_of_getElem? (i := 201) rfl)) rfl)
theorem kL_74 : LinkM RL 74 yX10_goes := Or.inl (memT (tin_3 _ (List.mem_of_getElem? (i := 205) rfl)) rfl)
theorem kX10_179 : LinkM RX10 179 yX2_followPlan := Or.inl (memT (tin_3 _ (List.mem_of_getElem? (i := 209) rfl)) rfl)
theorem kL_78 : LinkM RL 78 yX10_round := Or.inl (memT (tin_3 _ (List.mem_of_getElem? (i := 213) rfl)) rfl)
theorem kX10_188 : LinkM RX10 188 yJ6_bitCount_0f7a4 := Or.inl (memT (tin_3 _ (List.mem_of_getElem? (i := 217) rfl)) rfl)
theorem kX10_193 : LinkM RX10 193 yX2_bestRound := Or.inl (memT (tin_3 _ (List.mem_of_getElem? (i := 218) rfl)) rfl)
theorem kX2_66 : LinkM RX2 66 yX3_start := Or.inl (memT (tin_3 _ (List.mem_of_getElem? (i := 222) rfl)) rfl)
theorem kX3_28 : LinkM RX3 28 yX10_bit := Or.inr ⟨"AskedIn", List.mem_of_getElem? (i := 11) rfl⟩
theorem kX2_77 : LinkM RX2 77 yJ6_bitCount_0f7a4 := Or.inl (memT (tin_3 _ (List.mem_of_getElem? (i := 227) rfl)) rfl)
theorem kX2_86 : LinkM RX2 86 yX3_weigh := Or.inl (memT (tin_3 _ (List.mem_of_getElem? (i := 228) rfl)) rfl)
theorem kX3_32 : LinkM RX3 32 ⟨"java/lang/System", "arraycopy", "(Ljava/lang/Object;ILjava/lang/Object;II)V"⟩ := Or.inl (memT (tin_3 _ (List.mem_of_getElem? (i := 232) rfl)) rfl)
theorem kX2_89 : LinkM RX2 89 yX3_advance := Or.inl (memT (tin_3 _ (List.mem_of_getElem? (i := 235) rfl)) rfl)
theorem kX3_38 : LinkM RX3 38 yX3_swap := Or.inl (memT (tin_3 _ (List.mem_of_getElem? (i := 239) rfl)) rfl)
theorem kL_82 : LinkM RL 82 yX10_keep := Or.inl (memT (tin_4 _ (List.mem_of_getElem? (i := 3) rfl)) rfl)
theorem kX10_207 : LinkM RX10 207 yX2_leastGrain := Or.inl (memT (tin_4 _ (List.mem_of_getElem? (i := 7) rfl)) rfl)
theorem kX2_93 : LinkM RX2 93 yX2_comesIn := Or.inl (memT (tin_4 _ (List.mem_of_getElem? (i := 11) rfl)) rfl)
theorem kL_86 : LinkM RL 86 yX10_more := Or.inl (memT (tin_4 _ (List.mem_of_getElem? (i := 12) rfl)) rfl)
theorem kX10_210 : LinkM RX10 210 yX2_houseToStrew := Or.inl (memT (tin_4 _ (List.mem_of_getElem? (i := 16) rfl)) rfl)
theorem kX2_100 : LinkM RX2 100 yX2_insAt := Or.inl (memT (tin_4 _ (List.mem_of_getElem? (i := 20) rfl)) rfl)
theorem kX2_104 : LinkM RX2 104 yJ9_min_7cf53 := Or.inl (memT (tin_4 _ (List.mem_of_getElem? (i := 24) rfl)) rfl)
theorem kX10_213 : LinkM RX10 213 yX2_pairsAfter := Or.inl (memT (tin_4 _ (List.mem_of_getElem? (i := 25) rfl)) rfl)
theorem kL_90 : LinkM RL 90 yX10_share := Or.inl (memT (tin_4 _ (List.mem_of_getElem? (i := 29) rfl)) rfl)
theorem kX10_216 : LinkM RX10 216 yX2_doneTogether := Or.inl (memT (tin_4 _ (List.mem_of_getElem? (i := 33) rfl)) rfl)
theorem kX2_112 : LinkM RX2 112 yX2_walk := Or.inl (memT (tin_4 _ (List.mem_of_getElem? (i := 37) rfl)) rfl)
theorem kX2_118 : LinkM RX2 118 yX9_weigh := Or.inl (memT (tin_4 _ (List.mem_of_getElem? (i := 41) rfl)) rfl)
theorem kX2_138 : LinkM RX2 138 yJ9_abs_0f7a4 := Or.inl (memT (tin_4 _ (List.mem_of_getElem? (i := 42) rfl)) rfl)
theorem kX2_115 : LinkM RX2 115 yJ9_max_7cf53 := Or.inl (memT (tin_4 _ (List.mem_of_getElem? (i := 43) rfl)) rfl)
theorem kX2_129 : LinkM RX2 129 yX10_roundedUp := Or.inr ⟨"AskedIn", List.mem_of_getElem? (i := 12) rfl⟩
theorem kX10_219 : LinkM RX10 219 yX1_isLetIn := Or.inl (memT (tin_4 _ (List.mem_of_getElem? (i := 45) rfl)) rfl)
theorem kX1_95 : LinkM RX1 95 yX1_begin := Or.inl (memT (tin_4 _ (List.mem_of_getElem? (i := 49) rfl)) rfl)
theorem kL_95 : LinkM RL 95 yX10_watch := Or.inl (memT (tin_4 _ (List.mem_of_getElem? (i := 50) rfl)) rfl)
theorem kL_100 : LinkM RL 100 yX10_suspects := Or.inl (memT (tin_4 _ (List.mem_of_getElem? (i := 54) rfl)) rfl)
theorem kX10_225 : LinkM RX10 225 yX2_whoBits := Or.inl (memT (tin_4 _ (List.mem_of_getElem? (i := 58) rfl)) rfl)
theorem kX2_147 : LinkM RX2 147 yX10_withBit := Or.inr ⟨"AskedIn", List.mem_of_getElem? (i := 13) rfl⟩
theorem kL_104 : LinkM RL 104 yX10_next := Or.inl (memT (tin_4 _ (List.mem_of_getElem? (i := 63) rfl)) rfl)
theorem kX10_228 : LinkM RX10 228 yX2_houseToWatch := Or.inl (memT (tin_4 _ (List.mem_of_getElem? (i := 67) rfl)) rfl)
theorem kX2_151 : LinkM RX2 151 yX2_whoBits := Or.inl (memT (tin_4 _ (List.mem_of_getElem? (i := 71) rfl)) rfl)
theorem kX2_155 : LinkM RX2 155 yX2_apartAt := Or.inl (memT (tin_4 _ (List.mem_of_getElem? (i := 72) rfl)) rfl)
theorem kX2_158 : LinkM RX2 158 yX10_bit := Or.inr ⟨"AskedIn", List.mem_of_getElem? (i := 14) rfl⟩
theorem kL_108 : LinkM RL 108 yX10_when := Or.inl (memT (tin_4 _ (List.mem_of_getElem? (i := 77) rfl)) rfl)
theorem kX10_231 : LinkM RX10 231 yX2_leastStart := Or.inl (memT (tin_4 _ (List.mem_of_getElem? (i := 81) rfl)) rfl)
theorem kL_112 : LinkM RL 112 yX10_odds := Or.inl (memT (tin_4 _ (List.mem_of_getElem? (i := 85) rfl)) rfl)
theorem kX10_234 : Cond.constantLong RX10 234 (-9223372036854775808) ∈ tblG := memT (tin_4 _ (List.mem_of_getElem? (i := 89) rfl)) rfl
theorem kX10_236 : LinkM RX10 236 yX2_goodStarts := Or.inl (memT (tin_4 _ (List.mem_of_getElem? (i := 90) rfl)) rfl)
theorem kX10_239 : Cond.constantLong RX10 239 (60) ∈ tblG := memT (tin_4 _ (List.mem_of_getElem? (i := 94) rfl)) rfl
theorem kX10_241 : LinkM RX10 241 yX10_sideOfFraction := Or.inl (memT (tin_4 _ (List.mem_of_getElem? (i := 95) rfl)) rfl)
theorem kL_117 : LinkM RL 117 yX10_mean := Or.inl (memT (tin_4 _ (List.mem_of_getElem? (i := 98) rfl)) rfl)
theorem kX10_248 : LinkM RX10 248 yX2_minutesOfAll := Or.inl (memT (tin_4 _ (List.mem_of_getElem? (i := 102) rfl)) rfl)
theorem kL_122 : LinkM RL 122 yX10_book := Or.inl (memT (tin_4 _ (List.mem_of_getElem? (i := 106) rfl)) rfl)
theorem kL_126 : LinkM RL 126 yX10_looked := Or.inl (memT (tin_4 _ (List.mem_of_getElem? (i := 110) rfl)) rfl)
theorem kX10_254 : LinkM RX10 254 yX2_firstKeptOut := Or.inl (memT (tin_4 _ (List.mem_of_getElem? (i := 114) rfl)) rfl)
theorem kL_130 : LinkM RL 130 yX10_judge := Or.inl (memT (tin_4 _ (List.mem_of_getElem? (i := 118) rfl)) rfl)
theorem kL_134 : LinkM RL 134 yX10_image := Or.inl (memT (tin_4 _ (List.mem_of_getElem? (i := 122) rfl)) rfl)
theorem kX10_267 : LinkM RX10 267 yX5_copy := Or.inl (memT (tin_4 _ (List.mem_of_getElem? (i := 126) rfl)) rfl)
theorem kX5_65 : LinkM RX5 65 ⟨"java/lang/System", "arraycopy", "(Ljava/lang/Object;ILjava/lang/Object;II)V"⟩ := Or.inl (memT (tin_4 _ (List.mem_of_getElem? (i := 130) rfl)) rfl)
theorem kX5_71 : LinkM RX5 71 yX4_copy := Or.inl (memT (tin_4 _ (List.mem_of_getElem? (i := 131) rfl)) rfl)
theorem kX4_28 : LinkM RX4 28 yJ9_min_7cf53 := Or.inl (memT (tin_4 _ (List.mem_of_getElem? (i := 135) rfl)) rfl)
theorem kX4_31 : LinkM RX4 31 ⟨"java/lang/System", "arraycopy", "(Ljava/lang/Object;ILjava/lang/Object;II)V"⟩ := Or.inl (memT (tin_4 _ (List.mem_of_getElem? (i := 136) rfl)) rfl)
theorem kL_138 : LinkM RL 138 yX10_undo := Or.inl (memT (tin_4 _ (List.mem_of_getElem? (i := 137) rfl)) rfl)
theorem kL_142 : LinkM RL 142 yX10_act := Or.inl (memT (tin_4 _ (List.mem_of_getElem? (i := 141) rfl)) rfl)
theorem kX10_275 : LinkM RX10 275 yX0_forget := Or.inl (memT (tin_4 _ (List.mem_of_getElem? (i := 145) rfl)) rfl)
theorem kX10_278 : LinkM RX10 278 yX0_start := Or.inl (memT (tin_4 _ (List.mem_of_getElem? (i := 149) rfl)) rfl)
theorem kX0_46 : LinkM RX0 46 yX0_call := Or.inl (memT (tin_4 _ (List.mem_of_getElem? (i := 153) rfl)) rfl)
theorem kX0_25 : LinkM RX0 25 yX10_isUpTo := Or.inr ⟨"AskedIn", List.mem_of_getElem? (i := 15) rfl⟩
theorem kX0_50 : LinkF RX0 50 "AskedIn$Acts" "BODIES" "[I" := Or.inl (memT (tin_4 _ (List.mem_of_getElem? (i := 158) rfl)) rfl)
theorem kX0_53 : LinkF RX0 53 "AskedIn" "ABOVE" "[I" := Or.inr ⟨"AskedIn", List.mem_of_getElem? (i := 16) rfl⟩
theorem kX0_56 : LinkM RX0 56 yX0_run := Or.inl (memT (tin_4 _ (List.mem_of_getElem? (i := 162) rfl)) rfl)
theorem kX0_59 : LinkM RX0 59 yX0_note := Or.inl (memT (tin_4 _ (List.mem_of_getElem? (i := 166) rfl)) rfl)
theorem kL_146 : LinkM RL 146 yX10_trace := Or.inl (memT (tin_4 _ (List.mem_of_getElem? (i := 170) rfl)) rfl)
theorem kX10_282 : LinkM RX10 282 yX0_begun := Or.inl (memT (tin_4 _ (List.mem_of_getElem? (i := 174) rfl)) rfl)
theorem kX0_19 : LinkM RX0 19 yJ9_min_7cf53 := Or.inl (memT (tin_4 _ (List.mem_of_getElem? (i := 178) rfl)) rfl)
theorem kL_150 : LinkM RL 150 yX10_taken := Or.inl (memT (tin_4 _ (List.mem_of_getElem? (i := 179) rfl)) rfl)
theorem kX10_285 : LinkM RX10 285 yX10_isUnder := Or.inl (memT (tin_4 _ (List.mem_of_getElem? (i := 183) rfl)) rfl)
theorem kX10_315 : LinkF RX10 315 "AskedIn" "ABOVE" "[I" := Or.inl (memT (tin_4 _ (List.mem_of_getElem? (i := 186) rfl)) rfl)
theorem kL_154 : LinkM RL 154 yX10_count := Or.inl (memT (tin_4 _ (List.mem_of_getElem? (i := 187) rfl)) rfl)
theorem kL_158 : LinkM RL 158 yX10_tape := Or.inl (memT (tin_4 _ (List.mem_of_getElem? (i := 191) rfl)) rfl)
theorem kX10_292 : LinkM RX10 292 yX6_become := Or.inl (memT (tin_4 _ (List.mem_of_getElem? (i := 195) rfl)) rfl)
theorem kX6_23 : LinkM RX6 23 yJ7_fill_d0a16 := Or.inl (memT (tin_4 _ (List.mem_of_getElem? (i := 199) rfl)) rfl)
theorem kL_164 : LinkM RL 164 yX10_item := Or.inl (memT (tin_4 _ (List.mem_of_getElem? (i := 202) rfl)) rfl)
theorem kX10_295 : LinkM RX10 295 yX6_cut := Or.inl (memT (tin_4 _ (List.mem_of_getElem? (i := 206) rfl)) rfl)
theorem kL_169 : LinkM RL 169 yX10_read := Or.inl (memT (tin_4 _ (List.mem_of_getElem? (i := 209) rfl)) rfl)
theorem kL_173 : LinkM RL 173 yX10_shift := Or.inl (memT (tin_4 _ (List.mem_of_getElem? (i := 213) rfl)) rfl)
theorem kX10_299 : LinkM RX10 299 ⟨"java/lang/System", "arraycopy", "(Ljava/lang/Object;ILjava/lang/Object;II)V"⟩ := Or.inl (memT (tin_4 _ (List.mem_of_getElem? (i := 217) rfl)) rfl)
theorem kL_10 : Cond.classLink RL 10 "AskedInModel" ∈ tblG := memT (tin_4 _ (List.mem_of_getElem? (i := 218) rfl)) rfl
theorem kL_12 : LinkM RL 12 yX11_init := Or.inl (memT (tin_4 _ (List.mem_of_getElem? (i := 220) rfl)) rfl)
theorem kX11_1 : LinkM RX11 1 ⟨"java/lang/Object", "<init>", "()V"⟩ := Or.inl (memT (tin_4 _ (List.mem_of_getElem? (i := 223) rfl)) rfl)
theorem kX11_7 : LinkF RX11 7 "AskedInModel" "houses" "I" := Or.inl (memT (tin_4 _ (List.mem_of_getElem? (i := 224) rfl)) rfl)
theorem kX11_13 : LinkF RX11 13 "AskedInModel" "folks" "I" := Or.inl (memT (tin_4 _ (List.mem_of_getElem? (i := 225) rfl)) rfl)
theorem kX11_16 : LinkF RX11 16 "AskedInModel" "kind" "[I" := Or.inl (memT (tin_4 _ (List.mem_of_getElem? (i := 226) rfl)) rfl)
theorem kX11_20 : LinkF RX11 20 "AskedInModel" "v" "[I" := Or.inl (memT (tin_4 _ (List.mem_of_getElem? (i := 227) rfl)) rfl)
theorem kX11_23 : LinkF RX11 23 "AskedInModel" "grain" "[I" := Or.inl (memT (tin_4 _ (List.mem_of_getElem? (i := 228) rfl)) rfl)
theorem kX11_26 : LinkF RX11 26 "AskedInModel" "asked" "[I" := Or.inl (memT (tin_4 _ (List.mem_of_getElem? (i := 229) rfl)) rfl)
theorem kX11_29 : LinkF RX11 29 "AskedInModel" "rows" "[I" := Or.inl (memT (tin_4 _ (List.mem_of_getElem? (i := 230) rfl)) rfl)
theorem kX11_32 : LinkF RX11 32 "AskedInModel" "sack" "[I" := Or.inl (memT (tin_4 _ (List.mem_of_getElem? (i := 231) rfl)) rfl)
theorem kX11_35 : LinkF RX11 35 "AskedInModel" "coins" "[I" := Or.inl (memT (tin_4 _ (List.mem_of_getElem? (i := 232) rfl)) rfl)
theorem kX11_38 : LinkF RX11 38 "AskedInModel" "quick" "[I" := Or.inl (memT (tin_4 _ (List.mem_of_getElem? (i := 233) rfl)) rfl)
theorem kX11_41 : LinkF RX11 41 "AskedInModel" "towns" "I" := Or.inl (memT (tin_4 _ (List.mem_of_getElem? (i := 234) rfl)) rfl)
theorem kX11_44 : LinkF RX11 44 "AskedInModel" "the" "I" := Or.inl (memT (tin_4 _ (List.mem_of_getElem? (i := 235) rfl)) rfl)
theorem kX11_47 : LinkF RX11 47 "AskedInModel" "fed" "I" := Or.inl (memT (tin_4 _ (List.mem_of_getElem? (i := 236) rfl)) rfl)
theorem kX11_50 : LinkF RX11 50 "AskedInModel" "at" "I" := Or.inl (memT (tin_4 _ (List.mem_of_getElem? (i := 237) rfl)) rfl)
theorem kX11_53 : LinkF RX11 53 "AskedInModel" "digits" "I" := Or.inl (memT (tin_4 _ (List.mem_of_getElem? (i := 238) rfl)) rfl)
theorem kX11_56 : LinkF RX11 56 "AskedInModel" "text" "[I" := Or.inl (memT (tin_4 _ (List.mem_of_getElem? (i := 239) rfl)) rfl)
theorem kX11_59 : LinkF RX11 59 "AskedInModel" "clauses" "[I" := Or.inl (memT (tin_5 _ (List.mem_of_getElem? (i := 0) rfl)) rfl)
theorem kX11_62 : LinkF RX11 62 "AskedInModel" "word" "[I" := Or.inl (memT (tin_5 _ (List.mem_of_getElem? (i := 1) rfl)) rfl)
theorem kX11_65 : LinkF RX11 65 "AskedInModel" "number" "[I" := Or.inl (memT (tin_5 _ (List.mem_of_getElem? (i := 2) rfl)) rfl)
theorem kX11_68 : LinkF RX11 68 "AskedInModel" "from" "[I" := Or.inl (memT (tin_5 _ (List.mem_of_getElem? (i := 3) rfl)) rfl)
theorem kX11_71 : LinkF RX11 71 "AskedInModel" "to" "[I" := Or.inl (memT (tin_5 _ (List.mem_of_getElem? (i := 4) rfl)) rfl)
theorem kX11_74 : LinkF RX11 74 "AskedInModel" "sign" "[I" := Or.inl (memT (tin_5 _ (List.mem_of_getElem? (i := 5) rfl)) rfl)
theorem kX11_77 : LinkF RX11 77 "AskedInModel" "waits" "[I" := Or.inl (memT (tin_5 _ (List.mem_of_getElem? (i := 6) rfl)) rfl)
theorem kX11_80 : LinkF RX11 80 "AskedInModel" "signs" "I" := Or.inl (memT (tin_5 _ (List.mem_of_getElem? (i := 7) rfl)) rfl)
theorem kX11_83 : LinkF RX11 83 "AskedInModel" "waiting" "I" := Or.inl (memT (tin_5 _ (List.mem_of_getElem? (i := 8) rfl)) rfl)
theorem kX11_86 : LinkF RX11 86 "AskedInModel" "open" "I" := Or.inl (memT (tin_5 _ (List.mem_of_getElem? (i := 9) rfl)) rfl)
theorem kX11_89 : LinkF RX11 89 "AskedInModel" "letters" "[I" := Or.inl (memT (tin_5 _ (List.mem_of_getElem? (i := 10) rfl)) rfl)
theorem kX11_92 : LinkF RX11 92 "AskedInModel" "pile" "[Z" := Or.inl (memT (tin_5 _ (List.mem_of_getElem? (i := 11) rfl)) rfl)
theorem kX11_96 : LinkF RX11 96 "AskedInModel" "whose" "I" := Or.inl (memT (tin_5 _ (List.mem_of_getElem? (i := 12) rfl)) rfl)
theorem kX11_99 : LinkF RX11 99 "AskedInModel" "minute" "I" := Or.inl (memT (tin_5 _ (List.mem_of_getElem? (i := 13) rfl)) rfl)
theorem kX11_102 : LinkF RX11 102 "AskedInModel" "stands" "I" := Or.inl (memT (tin_5 _ (List.mem_of_getElem? (i := 14) rfl)) rfl)
theorem kX11_105 : LinkF RX11 105 "AskedInModel" "purse" "I" := Or.inl (memT (tin_5 _ (List.mem_of_getElem? (i := 15) rfl)) rfl)
theorem kX11_108 : LinkF RX11 108 "AskedInModel" "been" "I" := Or.inl (memT (tin_5 _ (List.mem_of_getElem? (i := 16) rfl)) rfl)
theorem kX11_111 : LinkF RX11 111 "AskedInModel" "inside" "I" := Or.inl (memT (tin_5 _ (List.mem_of_getElem? (i := 17) rfl)) rfl)
theorem kX11_114 : LinkF RX11 114 "AskedInModel" "ways" "I" := Or.inl (memT (tin_5 _ (List.mem_of_getElem? (i := 18) rfl)) rfl)
theorem kX11_117 : LinkF RX11 117 "AskedInModel" "way" "[I" := Or.inl (memT (tin_5 _ (List.mem_of_getElem? (i := 19) rfl)) rfl)
theorem kX11_120 : LinkF RX11 120 "AskedInModel" "order" "[I" := Or.inl (memT (tin_5 _ (List.mem_of_getElem? (i := 20) rfl)) rfl)
theorem kX11_123 : LinkF RX11 123 "AskedInModel" "bestOrder" "[I" := Or.inl (memT (tin_5 _ (List.mem_of_getElem? (i := 21) rfl)) rfl)
theorem kX11_126 : LinkF RX11 126 "AskedInModel" "watched" "I" := Or.inl (memT (tin_5 _ (List.mem_of_getElem? (i := 22) rfl)) rfl)
theorem kX11_129 : LinkF RX11 129 "AskedInModel" "watchHouse" "[I" := Or.inl (memT (tin_5 _ (List.mem_of_getElem? (i := 23) rfl)) rfl)
theorem kX11_132 : LinkF RX11 132 "AskedInModel" "watchIn" "[Z" := Or.inl (memT (tin_5 _ (List.mem_of_getElem? (i := 24) rfl)) rfl)
theorem kX11_135 : LinkF RX11 135 "AskedInModel" "books" "I" := Or.inl (memT (tin_5 _ (List.mem_of_getElem? (i := 25) rfl)) rfl)
theorem kX11_138 : LinkF RX11 138 "AskedInModel" "bookFolk" "[I" := Or.inl (memT (tin_5 _ (List.mem_of_getElem? (i := 26) rfl)) rfl)
theorem kX11_141 : LinkF RX11 141 "AskedInModel" "bookHouse" "[I" := Or.inl (memT (tin_5 _ (List.mem_of_getElem? (i := 27) rfl)) rfl)
theorem kX11_144 : LinkF RX11 144 "AskedInModel" "hasImage" "Z" := Or.inl (memT (tin_5 _ (List.mem_of_getElem? (i := 28) rfl)) rfl)
theorem kX11_148 : LinkF RX11 148 "AskedInModel" "imageThe" "I" := Or.inl (memT (tin_5 _ (List.mem_of_getElem? (i := 29) rfl)) rfl)
theorem kX11_151 : LinkF RX11 151 "AskedInModel" "imageHouses" "I" := Or.inl (memT (tin_5 _ (List.mem_of_getElem? (i := 30) rfl)) rfl)
theorem kX11_154 : LinkF RX11 154 "AskedInModel" "imageFolks" "I" := Or.inl (memT (tin_5 _ (List.mem_of_getElem? (i := 31) rfl)) rfl)
theorem kX11_157 : LinkF RX11 157 "AskedInModel" "imageWays" "I" := Or.inl (memT (tin_5 _ (List.mem_of_getElem? (i := 32) rfl)) rfl)
theorem kX11_160 : LinkF RX11 160 "AskedInModel" "imageWatched" "I" := Or.inl (memT (tin_5 _ (List.mem_of_getElem? (i := 33) rfl)) rfl)
theorem kX11_163 : LinkF RX11 163 "AskedInModel" "imageBooks" "I" := Or.inl (memT (tin_5 _ (List.mem_of_getElem? (i := 34) rfl)) rfl)
theorem kX11_166 : LinkF RX11 166 "AskedInModel" "imageKind" "[I" := Or.inl (memT (tin_5 _ (List.mem_of_getElem? (i := 35) rfl)) rfl)
theorem kX11_169 : LinkF RX11 169 "AskedInModel" "imageV" "[I" := Or.inl (memT (tin_5 _ (List.mem_of_getElem? (i := 36) rfl)) rfl)
theorem kX11_172 : LinkF RX11 172 "AskedInModel" "imageGrain" "[I" := Or.inl (memT (tin_5 _ (List.mem_of_getElem? (i := 37) rfl)) rfl)
theorem kX11_175 : LinkF RX11 175 "AskedInModel" "imageAsked" "[I" := Or.inl (memT (tin_5 _ (List.mem_of_getElem? (i := 38) rfl)) rfl)
theorem kX11_178 : LinkF RX11 178 "AskedInModel" "imageRows" "[I" := Or.inl (memT (tin_5 _ (List.mem_of_getElem? (i := 39) rfl)) rfl)
theorem kX11_181 : LinkF RX11 181 "AskedInModel" "imageSack" "[I" := Or.inl (memT (tin_5 _ (List.mem_of_getElem? (i := 40) rfl)) rfl)
theorem kX11_184 : LinkF RX11 184 "AskedInModel" "imageCoins" "[I" := Or.inl (memT (tin_5 _ (List.mem_of_getElem? (i := 41) rfl)) rfl)
theorem kX11_187 : LinkF RX11 187 "AskedInModel" "imageQuick" "[I" := Or.inl (memT (tin_5 _ (List.mem_of_getElem? (i := 42) rfl)) rfl)
theorem kX11_190 : LinkF RX11 190 "AskedInModel" "imageWay" "[I" := Or.inl (memT (tin_5 _ (List.mem_of_getElem? (i := 43) rfl)) rfl)
theorem kX11_193 : LinkF RX11 193 "AskedInModel" "imageWatch" "[I" := Or.inl (memT (tin_5 _ (List.mem_of_getElem? (i := 44) rfl)) rfl)
theorem kX11_196 : LinkF RX11 196 "AskedInModel" "imageFolk" "[I" := Or.inl (memT (tin_5 _ (List.mem_of_getElem? (i := 45) rfl)) rfl)
theorem kX11_199 : LinkF RX11 199 "AskedInModel" "imageHouse" "[I" := Or.inl (memT (tin_5 _ (List.mem_of_getElem? (i := 46) rfl)) rfl)
theorem kX11_202 : LinkF RX11 202 "AskedInModel" "imageIn" "[Z" := Or.inl (memT (tin_5 _ (List.mem_of_getElem? (i := 47) rfl)) rfl)
theorem kX11_205 : LinkF RX11 205 "AskedInModel" "ran" "I" := Or.inl (memT (tin_5 _ (List.mem_of_getElem? (i := 48) rfl)) rfl)
theorem kX11_208 : LinkF RX11 208 "AskedInModel" "bodies" "[I" := Or.inl (memT (tin_5 _ (List.mem_of_getElem? (i := 49) rfl)) rfl)
theorem kX11_211 : LinkF RX11 211 "AskedInModel" "sort" "[I" := Or.inl (memT (tin_5 _ (List.mem_of_getElem? (i := 50) rfl)) rfl)
theorem kX11_214 : LinkF RX11 214 "AskedInModel" "length" "[I" := Or.inl (memT (tin_5 _ (List.mem_of_getElem? (i := 51) rfl)) rfl)
theorem kX11_217 : LinkF RX11 217 "AskedInModel" "item" "[J" := Or.inl (memT (tin_5 _ (List.mem_of_getElem? (i := 52) rfl)) rfl)
theorem kX11_221 : LinkF RX11 221 "AskedInModel" "aside" "[J" := Or.inl (memT (tin_5 _ (List.mem_of_getElem? (i := 53) rfl)) rfl)
theorem kL_17 : LinkM RL 17 yX11_house := Or.inl (memT (tin_5 _ (List.mem_of_getElem? (i := 196) rfl)) rfl)
theorem kX11_224 : LinkM RX11 224 yX11_in := Or.inl (memT (tin_5 _ (List.mem_of_getElem? (i := 200) rfl)) rfl)
theorem kX11_228 : LinkM RX11 228 yX11_becomes := Or.inl (memT (tin_5 _ (List.mem_of_getElem? (i := 204) rfl)) rfl)
theorem kL_21 : LinkM RL 21 yX11_folk := Or.inl (memT (tin_5 _ (List.mem_of_getElem? (i := 208) rfl)) rfl)
theorem kX11_232 : LinkM RX11 232 yX11_isHouse := Or.inl (memT (tin_5 _ (List.mem_of_getElem? (i := 212) rfl)) rfl)
theorem kL_30 : LinkM RL 30 yX11_who := Or.inl (memT (tin_5 _ (List.mem_of_getElem? (i := 216) rfl)) rfl)
theorem kX11_236 : LinkM RX11 236 yX11_isFolk := Or.inl (memT (tin_5 _ (List.mem_of_getElem? (i := 220) rfl)) rfl)
theorem kL_34 : LinkM RL 34 yX11_strew := Or.inl (memT (tin_5 _ (List.mem_of_getElem? (i := 224) rfl)) rfl)
theorem kL_39 : LinkM RL 39 yX11_ask := Or.inl (memT (tin_5 _ (List.mem_of_getElem? (i := 228) rfl)) rfl)
theorem kL_43 : LinkM RL 43 yX11_sack := Or.inl (memT (tin_5 _ (List.mem_of_getElem? (i := 232) rfl)) rfl)
theorem kL_47 : LinkM RL 47 yX11_sell := Or.inl (memT (tin_5 _ (List.mem_of_getElem? (i := 236) rfl)) rfl)
theorem kL_51 : LinkM RL 51 yX11_row := Or.inl (memT (tin_6 _ (List.mem_of_getElem? (i := 0) rfl)) rfl)
theorem kL_56 : LinkM RL 56 yX11_feed := Or.inl (memT (tin_6 _ (List.mem_of_getElem? (i := 4) rfl)) rfl)
theorem kL_61 : LinkM RL 61 yX11_town := Or.inl (memT (tin_6 _ (List.mem_of_getElem? (i := 8) rfl)) rfl)
theorem kX11_283 : LinkM RX11 283 yX11_goesText := Or.inl (memT (tin_6 _ (List.mem_of_getElem? (i := 12) rfl)) rfl)
theorem kX11_280 : LinkM RX11 280 yX11_takesClause := Or.inl (memT (tin_6 _ (List.mem_of_getElem? (i := 16) rfl)) rfl)
theorem kX11_274 : LinkM RX11 274 yX11_takesHead := Or.inl (memT (tin_6 _ (List.mem_of_getElem? (i := 20) rfl)) rfl)
theorem kX11_239 : LinkM RX11 239 yX11_peek := Or.inl (memT (tin_6 _ (List.mem_of_getElem? (i := 24) rfl)) rfl)
theorem kX11_270 : LinkM RX11 270 yX11_takesWord := Or.inl (memT (tin_6 _ (List.mem_of_getElem? (i := 28) rfl)) rfl)
theorem kX11_243 : LinkM RX11 243 yX11_takes := Or.inl (memT (tin_6 _ (List.mem_of_getElem? (i := 32) rfl)) rfl)
theorem kX11_258 : LinkM RX11 258 yX11_takesNumber := Or.inl (memT (tin_6 _ (List.mem_of_getElem? (i := 36) rfl)) rfl)
theorem kX11_246 : LinkM RX11 246 yX11_isDigit := Or.inl (memT (tin_6 _ (List.mem_of_getElem? (i := 40) rfl)) rfl)
theorem kX11_277 : LinkM RX11 277 yX11_takesE := Or.inl (memT (tin_6 _ (List.mem_of_getElem? (i := 44) rfl)) rfl)
theorem kX11_264 : LinkM RX11 264 yX11_takesTest := Or.inl (memT (tin_6 _ (List.mem_of_getElem? (i := 48) rfl)) rfl)
theorem kX11_254 : LinkM RX11 254 yX11_place := Or.inl (memT (tin_6 _ (List.mem_of_getElem? (i := 52) rfl)) rfl)
theorem kX11_250 : LinkM RX11 250 yX11_emits := Or.inl (memT (tin_6 _ (List.mem_of_getElem? (i := 56) rfl)) rfl)
theorem kX11_261 : LinkM RX11 261 yX11_whole := Or.inl (memT (tin_6 _ (List.mem_of_getElem? (i := 60) rfl)) rfl)
theorem kX11_267 : LinkM RX11 267 yX11_settle := Or.inl (memT (tin_6 _ (List.mem_of_getElem? (i := 64) rfl)) rfl)
theorem kL_65 : LinkM RL 65 yX11_dawn := Or.inl (memT (tin_6 _ (List.mem_of_getElem? (i := 68) rfl)) rfl)
theorem kX11_286 : LinkM RX11 286 yX11_begin := Or.inl (memT (tin_6 _ (List.mem_of_getElem? (i := 72) rfl)) rfl)
theorem kX11_289 : LinkM RX11 289 yX11_behind := Or.inl (memT (tin_6 _ (List.mem_of_getElem? (i := 76) rfl)) rfl)
theorem kL_26 : LinkM RL 26 yX11_of := Or.inl (memT (tin_6 _ (List.mem_of_getElem? (i := 80) rfl)) rfl)
theorem kX11_304 : LinkM RX11 304 yX11_slowOf := Or.inl (memT (tin_6 _ (List.mem_of_getElem? (i := 84) rfl)) rfl)
theorem kX11_300 : LinkM RX11 300 yX11_sumOf := Or.inl (memT (tin_6 _ (List.mem_of_getElem? (i := 88) rfl)) rfl)
theorem kX11_296 : LinkM RX11 296 yX11_holds := Or.inl (memT (tin_6 _ (List.mem_of_getElem? (i := 92) rfl)) rfl)
theorem kX11_292 : LinkM RX11 292 yX11_factOf := Or.inl (memT (tin_6 _ (List.mem_of_getElem? (i := 96) rfl)) rfl)
theorem kX11_308 : LinkM RX11 308 yX11_farOf := Or.inl (memT (tin_6 _ (List.mem_of_getElem? (i := 100) rfl)) rfl)
theorem kL_69 : LinkM RL 69 yX11_visit := Or.inl (memT (tin_6 _ (List.mem_of_getElem? (i := 104) rfl)) rfl)
theorem kX11_343 : LinkM RX11 343 yX11_comesIn := Or.inl (memT (tin_6 _ (List.mem_of_getElem? (i := 108) rfl)) rfl)
theorem kX11_336 : LinkM RX11 336 yX11_beginNight := Or.inl (memT (tin_6 _ (List.mem_of_getElem? (i := 112) rfl)) rfl)
theorem kX11_340 : LinkM RX11 340 yX11_visits := Or.inl (memT (tin_6 _ (List.mem_of_getElem? (i := 116) rfl)) rfl)
theorem kX11_323 : LinkM RX11 323 yX11_apart := Or.inl (memT (tin_6 _ (List.mem_of_getElem? (i := 120) rfl)) rfl)
theorem kX11_314 : LinkM RX11 314 yX11_has := Or.inl (memT (tin_6 _ (List.mem_of_getElem? (i := 124) rfl)) rfl)
theorem kX11_327 : LinkM RX11 327 yX11_upBy := Or.inl (memT (tin_6 _ (List.mem_of_getElem? (i := 128) rfl)) rfl)
theorem kX11_330 : LinkM RX11 330 yX11_dawn := Or.inl (memT (tin_6 _ (List.mem_of_getElem? (i := 132) rfl)) rfl)
theorem kX11_333 : LinkM RX11 333 yX11_letsIn := Or.inl (memT (tin_6 _ (List.mem_of_getElem? (i := 133) rfl)) rfl)
theorem kX11_317 : LinkM RX11 317 yX11_isProudly := Or.inl (memT (tin_6 _ (List.mem_of_getElem? (i := 137) rfl)) rfl)
theorem kX11_311 : LinkM RX11 311 yX11_ones := Or.inl (memT (tin_6 _ (List.mem_of_getElem? (i := 141) rfl)) rfl)
theorem kX11_320 : LinkM RX11 320 yX11_pays := Or.inl (memT (tin_6 _ (List.mem_of_getElem? (i := 145) rfl)) rfl)
theorem kL_73 : LinkM RL 73 yX11_way := Or.inl (memT (tin_6 _ (List.mem_of_getElem? (i := 149) rfl)) rfl)
theorem kL_77 : LinkM RL 77 yX11_goes := Or.inl (memT (tin_6 _ (List.mem_of_getElem? (i := 153) rfl)) rfl)
theorem kL_81 : LinkM RL 81 yX11_round := Or.inl (memT (tin_6 _ (List.mem_of_getElem? (i := 157) rfl)) rfl)
theorem kX11_346 : LinkM RX11 346 yX11_layOrder := Or.inl (memT (tin_6 _ (List.mem_of_getElem? (i := 161) rfl)) rfl)
theorem kL_85 : LinkM RL 85 yX11_keep := Or.inl (memT (tin_6 _ (List.mem_of_getElem? (i := 165) rfl)) rfl)
theorem kL_89 : LinkM RL 89 yX11_more := Or.inl (memT (tin_6 _ (List.mem_of_getElem? (i := 169) rfl)) rfl)
theorem kX11_349 : LinkM RX11 349 yX11_pairsIn := Or.inl (memT (tin_6 _ (List.mem_of_getElem? (i := 173) rfl)) rfl)
theorem kL_94 : LinkM RL 94 yX11_share := Or.inl (memT (tin_6 _ (List.mem_of_getElem? (i := 177) rfl)) rfl)
theorem kX11_352 : LinkM RX11 352 yX11_walksTo := Or.inl (memT (tin_6 _ (List.mem_of_getElem? (i := 181) rfl)) rfl)
theorem kX11_355 : LinkM RX11 355 yX11_isLetIn := Or.inl (memT (tin_6 _ (List.mem_of_getElem? (i := 185) rfl)) rfl)
theorem kL_99 : LinkM RL 99 yX11_watch := Or.inl (memT (tin_6 _ (List.mem_of_getElem? (i := 189) rfl)) rfl)
theorem kL_103 : LinkM RL 103 yX11_suspects := Or.inl (memT (tin_6 _ (List.mem_of_getElem? (i := 193) rfl)) rfl)
theorem kL_107 : LinkM RL 107 yX11_next := Or.inl (memT (tin_6 _ (List.mem_of_getElem? (i := 197) rfl)) rfl)
theorem kX11_358 : LinkM RX11 358 yX11_suspects := Or.inl (memT (tin_6 _ (List.mem_of_getElem? (i := 201) rfl)) rfl)
theorem kL_111 : LinkM RL 111 yX11_when := Or.inl (memT (tin_6 _ (List.mem_of_getElem? (i := 202) rfl)) rfl)
theorem kL_116 : LinkM RL 116 yX11_odds := Or.inl (memT (tin_6 _ (List.mem_of_getElem? (i := 206) rfl)) rfl)
theorem kX11_364 : Cond.constantLong RX11 364 (-9223372036854775808) ∈ tblG := memT (tin_6 _ (List.mem_of_getElem? (i := 210) rfl)) rfl
theorem kX11_366 : LinkM RX11 366 yX11_lowest := Or.inl (memT (tin_6 _ (List.mem_of_getElem? (i := 211) rfl)) rfl)
theorem kX11_361 : LinkM RX11 361 yX11_divisor := Or.inl (memT (tin_6 _ (List.mem_of_getElem? (i := 215) rfl)) rfl)
theorem kL_121 : LinkM RL 121 yX11_mean := Or.inl (memT (tin_6 _ (List.mem_of_getElem? (i := 219) rfl)) rfl)
theorem kL_125 : LinkM RL 125 yX11_book := Or.inl (memT (tin_6 _ (List.mem_of_getElem? (i := 223) rfl)) rfl)
theorem kL_129 : LinkM RL 129 yX11_looked := Or.inl (memT (tin_6 _ (List.mem_of_getElem? (i := 227) rfl)) rfl)
theorem kL_133 : LinkM RL 133 yX11_judge := Or.inl (memT (tin_6 _ (List.mem_of_getElem? (i := 231) rfl)) rfl)
theorem kX11_370 : LinkM RX11 370 yX11_isTape := Or.inl (memT (tin_6 _ (List.mem_of_getElem? (i := 235) rfl)) rfl)
theorem kL_137 : LinkM RL 137 yX11_image := Or.inl (memT (tin_6 _ (List.mem_of_getElem? (i := 239) rfl)) rfl)
theorem kL_141 : LinkM RL 141 yX11_undo := Or.inl (memT (tin_7 _ (List.mem_of_getElem? (i := 3) rfl)) rfl)
theorem kL_145 : LinkM RL 145 yX11_act := Or.inl (memT (tin_7 _ (List.mem_of_getElem? (i := 7) rfl)) rfl)
theorem kX11_379 : LinkM RX11 379 yX11_asksAct := Or.inl (memT (tin_7 _ (List.mem_of_getElem? (i := 11) rfl)) rfl)
theorem kX11_373 : LinkM RX11 373 yX11_body := Or.inl (memT (tin_7 _ (List.mem_of_getElem? (i := 15) rfl)) rfl)
theorem kX11_376 : LinkM RX11 376 yX11_houseAsks := Or.inl (memT (tin_7 _ (List.mem_of_getElem? (i := 19) rfl)) rfl)
theorem kX11_388 : LinkM RX11 388 yX11_opensAct := Or.inl (memT (tin_7 _ (List.mem_of_getElem? (i := 23) rfl)) rfl)
theorem kX11_385 : LinkM RX11 385 yX11_lonelyOpens := Or.inl (memT (tin_7 _ (List.mem_of_getElem? (i := 27) rfl)) rfl)
theorem kX11_382 : LinkM RX11 382 yX11_houseOpens := Or.inl (memT (tin_7 _ (List.mem_of_getElem? (i := 31) rfl)) rfl)
theorem kX11_394 : LinkM RX11 394 yX11_tellsAct := Or.inl (memT (tin_7 _ (List.mem_of_getElem? (i := 35) rfl)) rfl)
theorem kX11_391 : LinkM RX11 391 yX11_houseTells := Or.inl (memT (tin_7 _ (List.mem_of_getElem? (i := 39) rfl)) rfl)
theorem kL_149 : LinkM RL 149 yX11_trace := Or.inl (memT (tin_7 _ (List.mem_of_getElem? (i := 43) rfl)) rfl)
theorem kL_153 : LinkM RL 153 yX11_taken := Or.inl (memT (tin_7 _ (List.mem_of_getElem? (i := 47) rfl)) rfl)
theorem kL_157 : LinkM RL 157 yX11_count := Or.inl (memT (tin_7 _ (List.mem_of_getElem? (i := 51) rfl)) rfl)
theorem kL_161 : LinkM RL 161 yX11_tape := Or.inl (memT (tin_7 _ (List.mem_of_getElem? (i := 55) rfl)) rfl)
theorem kL_168 : LinkM RL 168 yX11_item := Or.inl (memT (tin_7 _ (List.mem_of_getElem? (i := 59) rfl)) rfl)
theorem kX11_397 : LinkM RX11 397 yX11_narrow := Or.inl (memT (tin_7 _ (List.mem_of_getElem? (i := 63) rfl)) rfl)
theorem kL_172 : LinkM RL 172 yX11_read := Or.inl (memT (tin_7 _ (List.mem_of_getElem? (i := 67) rfl)) rfl)
theorem kL_177 : LinkM RL 177 yX11_shift := Or.inl (memT (tin_7 _ (List.mem_of_getElem? (i := 71) rfl)) rfl)
theorem kL_162 : Cond.constantLong RL 162 (4294967295) ∈ tblG := memT (tin_7 _ (List.mem_of_getElem? (i := 75) rfl)) rfl
theorem kJ0_9 : LinkF RJ0 9 "java/lang/String" "value" "[B" := Or.inl (memT (tin_7 _ (List.mem_of_getElem? (i := 76) rfl)) rfl)
theorem kJ0_15 : LinkF RJ0 15 "java/lang/String" "coder" "B" := Or.inl (memT (tin_7 _ (List.mem_of_getElem? (i := 77) rfl)) rfl)
abbrev mX0_init : MI := (yX0_init, cX0_init, 1, none)
theorem qX0_init : Cal mX0_init 0 := ⟨memT (tin_1 _ (List.mem_of_getElem? (i := 6) rfl)) rfl, memT (tin_1 _ (List.mem_of_getElem? (i := 175) rfl)) rfl, ⟨by decide +kernel, by decide +kernel⟩, by decide +kernel⟩
theorem vX0_init : Cond.instanceMethod yX0_init ∈ tblG := memT (tin_1 _ (List.mem_of_getElem? (i := 174) rfl)) rfl
abbrev mX0_forget : MI := (yX0_forget, cX0_forget, 1, none)
theorem qX0_forget : Cal mX0_forget 0 := ⟨memT (tin_1 _ (List.mem_of_getElem? (i := 6) rfl)) rfl, memT (tin_4 _ (List.mem_of_getElem? (i := 148) rfl)) rfl, ⟨by decide +kernel, by decide +kernel⟩, by decide +kernel⟩
theorem vX0_forget : Cond.instanceMethod yX0_forget ∈ tblG := memT (tin_4 _ (List.mem_of_getElem? (i := 146) rfl)) rfl
theorem sX0_forget : Cond.selects RX0 yX0_forget yX0_forget ∈ tblG := memT (tin_4 _ (List.mem_of_getElem? (i := 147) rfl)) rfl
abbrev mX0_begun : MI := (yX0_begun, cX0_begun, 2, (some (.int)))
theorem qX0_begun : Cal mX0_begun 1 := ⟨memT (tin_1 _ (List.mem_of_getElem? (i := 6) rfl)) rfl, memT (tin_4 _ (List.mem_of_getElem? (i := 177) rfl)) rfl, ⟨by decide +kernel, by decide +kernel⟩, by decide +kernel⟩
theorem vX0_begun : Cond.instanceMethod yX0_begun ∈ tblG := memT (tin_4 _ (List.mem_of_getElem? (i := 175) rfl)) rfl
theorem sX0_begun : Cond.selects RX0 yX0_begun yX0_begun ∈ tblG := memT (tin_4 _ (List.mem_of_getElem? (i := 176) rfl)) rfl
abbrev mX0_start : MI := (yX0_start, cX0_start, 5, (some (.int)))
theorem qX0_start : Cal mX0_start 4 := ⟨memT (tin_1 _ (List.mem_of_getElem? (i := 6) rfl)) rfl, memT (tin_4 _ (List.mem_of_getElem? (i := 152) rfl)) rfl, ⟨by decide +kernel, by decide +kernel⟩, by decide +kernel⟩
theorem vX0_start : Cond.instanceMethod yX0_start ∈ tblG := memT (tin_4 _ (List.mem_of_getElem? (i := 150) rfl)) rfl
theorem sX0_start : Cond.selects RX0 yX0_start yX0_start ∈ tblG := memT (tin_4 _ (List.mem_of_getElem? (i := 151) rfl)) rfl
abbrev mX0_call : MI := (yX0_call, cX0_call, 8, (some (.int)))
theorem qX0_call : Cal mX0_call 4 := ⟨memT (tin_1 _ (List.mem_of_getElem? (i := 6) rfl)) rfl, memT (tin_4 _ (List.mem_of_getElem? (i := 156) rfl)) rfl, ⟨by decide +kernel, by decide +kernel⟩, by decide +kernel⟩
theorem vX0_call : Cond.instanceMethod yX0_call ∈ tblG := memT (tin_4 _ (List.mem_of_getElem? (i := 155) rfl)) rfl
theorem sX0_call : Cond.selects RX0 yX0_call yX0_call ∈ tblG := memT (List.mem_append_left _ (List.mem_of_getElem? (i := 18) rfl)) rfl
abbrev mX0_run : MI := (yX0_run, cX0_run, 5, (some (.int)))
theorem qX0_run : Cal mX0_run 4 := ⟨memT (tin_1 _ (List.mem_of_getElem? (i := 6) rfl)) rfl, memT (tin_4 _ (List.mem_of_getElem? (i := 165) rfl)) rfl, ⟨by decide +kernel, by decide +kernel⟩, by decide +kernel⟩
theorem vX0_run : Cond.instanceMethod yX0_run ∈ tblG := memT (tin_4 _ (List.mem_of_getElem? (i := 164) rfl)) rfl
theorem sX0_run : Cond.selects RX0 yX0_run yX0_run ∈ tblG := memT (List.mem_append_left _ (List.mem_of_getElem? (i := 19) rfl)) rfl
abbrev mX0_note : MI := (yX0_note, cX0_note, 2, none)
theorem qX0_note : Cal mX0_note 1 := ⟨memT (tin_1 _ (List.mem_of_getElem? (i := 6) rfl)) rfl, memT (tin_4 _ (List.mem_of_getElem? (i := 169) rfl)) rfl, ⟨by decide +kernel, by decide +kernel⟩, by decide +kernel⟩
theorem vX0_note : Cond.instanceMethod yX0_note ∈ tblG := memT (tin_4 _ (List.mem_of_getElem? (i := 168) rfl)) rfl
theorem sX0_note : Cond.selects RX0 yX0_note yX0_note ∈ tblG := memT (List.mem_append_left _ (List.mem_of_getElem? (i := 20) rfl)) rfl
abbrev mX1_init : MI := (yX1_init, cX1_init, 3, none)
theorem qX1_init : Cal mX1_init 2 := ⟨memT (tin_1 _ (List.mem_of_getElem? (i := 11) rfl)) rfl, memT (tin_2 _ (List.mem_of_getElem? (i := 52) rfl)) rfl, ⟨by decide +kernel, by decide +kernel⟩, by decide +kernel⟩
theorem vX1_init : Cond.instanceMethod yX1_init ∈ tblG := memT (tin_2 _ (List.mem_of_getElem? (i := 51) rfl)) rfl
abbrev mX1_measure : MI := (yX1_measure, cX1_measure, 4, none)
theorem qX1_measure : Cal mX1_measure 3 := ⟨memT (tin_1 _ (List.mem_of_getElem? (i := 11) rfl)) rfl, memT (tin_3 _ (List.mem_of_getElem? (i := 152) rfl)) rfl, ⟨by decide +kernel, by decide +kernel⟩, by decide +kernel⟩
theorem vX1_measure : Cond.instanceMethod yX1_measure ∈ tblG := memT (tin_3 _ (List.mem_of_getElem? (i := 150) rfl)) rfl
theorem sX1_measure : Cond.selects RX1 yX1_measure yX1_measure ∈ tblG := memT (tin_3 _ (List.mem_of_getElem? (i := 151) rfl)) rfl
abbrev mX1_begin : MI := (yX1_begin, cX1_begin, 3, none)
theorem qX1_begin : Cal mX1_begin 2 := ⟨memT (tin_1 _ (List.mem_of_getElem? (i := 11) rfl)) rfl, memT (tin_3 _ (List.mem_of_getElem? (i := 160) rfl)) rfl, ⟨by decide +kernel, by decide +kernel⟩, by decide +kernel⟩
theorem vX1_begin : Cond.instanceMethod yX1_begin ∈ tblG := memT (tin_3 _ (List.mem_of_getElem? (i := 158) rfl)) rfl
theorem sX1_begin : Cond.selects RX1 yX1_begin yX1_begin ∈ tblG := memT (tin_3 _ (List.mem_of_getElem? (i := 159) rfl)) rfl
abbrev mX1_reach : MI := (yX1_reach, cX1_reach, 3, (some (.boolean)))
theorem qX1_reach : Cal mX1_reach 1 := ⟨memT (tin_1 _ (List.mem_of_getElem? (i := 11) rfl)) rfl, memT (tin_3 _ (List.mem_of_getElem? (i := 164) rfl)) rfl, ⟨by decide +kernel, by decide +kernel⟩, by decide +kernel⟩
theorem vX1_reach : Cond.instanceMethod yX1_reach ∈ tblG := memT (tin_3 _ (List.mem_of_getElem? (i := 162) rfl)) rfl
theorem sX1_reach : Cond.selects RX1 yX1_reach yX1_reach ∈ tblG := memT (tin_3 _ (List.mem_of_getElem? (i := 163) rfl)) rfl
abbrev mX1_isLetIn : MI := (yX1_isLetIn, cX1_isLetIn, 4, (some (.boolean)))
theorem qX1_isLetIn : Cal mX1_isLetIn 3 := ⟨memT (tin_1 _ (List.mem_of_getElem? (i := 11) rfl)) rfl, memT (tin_4 _ (List.mem_of_getElem? (i := 48) rfl)) rfl, ⟨by decide +kernel, by decide +kernel⟩, by decide +kernel⟩
theorem vX1_isLetIn : Cond.instanceMethod yX1_isLetIn ∈ tblG := memT (tin_4 _ (List.mem_of_getElem? (i := 46) rfl)) rfl
theorem sX1_isLetIn : Cond.selects RX1 yX1_isLetIn yX1_isLetIn ∈ tblG := memT (tin_4 _ (List.mem_of_getElem? (i := 47) rfl)) rfl
abbrev mX1_isLet : MI := (yX1_isLet, cX1_isLet, 3, (some (.boolean)))
theorem qX1_isLet : Cal mX1_isLet 1 := ⟨memT (tin_1 _ (List.mem_of_getElem? (i := 11) rfl)) rfl, memT (tin_3 _ (List.mem_of_getElem? (i := 174) rfl)) rfl, ⟨by decide +kernel, by decide +kernel⟩, by decide +kernel⟩
theorem vX1_isLet : Cond.instanceMethod yX1_isLet ∈ tblG := memT (tin_3 _ (List.mem_of_getElem? (i := 173) rfl)) rfl
theorem sX1_isLet : Cond.selects RX1 yX1_isLet yX1_isLet ∈ tblG := memT (List.mem_append_left _ (List.mem_of_getElem? (i := 10) rfl)) rfl
abbrev mX1_isLate : MI := (yX1_isLate, cX1_isLate, 2, (some (.boolean)))
theorem qX1_isLate : Cal mX1_isLate 1 := ⟨memT (tin_1 _ (List.mem_of_getElem? (i := 11) rfl)) rfl, memT (tin_3 _ (List.mem_of_getElem? (i := 178) rfl)) rfl, ⟨by decide +kernel, by decide +kernel⟩, by decide +kernel⟩
theorem vX1_isLate : Cond.instanceMethod yX1_isLate ∈ tblG := memT (tin_3 _ (List.mem_of_getElem? (i := 177) rfl)) rfl
theorem sX1_isLate : Cond.selects RX1 yX1_isLate yX1_isLate ∈ tblG := memT (List.mem_append_left _ (List.mem_of_getElem? (i := 11) rfl)) rfl
abbrev mX1_isKnown : MI := (yX1_isKnown, cX1_isKnown, 3, (some (.boolean)))
theorem qX1_isKnown : Cal mX1_isKnown 2 := ⟨memT (tin_1 _ (List.mem_of_getElem? (i := 11) rfl)) rfl, memT (tin_3 _ (List.mem_of_getElem? (i := 182) rfl)) rfl, ⟨by decide +kernel, by decide +kernel⟩, by decide +kernel⟩
theorem vX1_isKnown : Cond.instanceMethod yX1_isKnown ∈ tblG := memT (tin_3 _ (List.mem_of_getElem? (i := 181) rfl)) rfl
theorem sX1_isKnown : Cond.selects RX1 yX1_isKnown yX1_isKnown ∈ tblG := memT (List.mem_append_left _ (List.mem_of_getElem? (i := 12) rfl)) rfl
abbrev mX1_pays : MI := (yX1_pays, cX1_pays, 3, (some (.boolean)))
theorem qX1_pays : Cal mX1_pays 1 := ⟨memT (tin_1 _ (List.mem_of_getElem? (i := 11) rfl)) rfl, memT (tin_3 _ (List.mem_of_getElem? (i := 192) rfl)) rfl, ⟨by decide +kernel, by decide +kernel⟩, by decide +kernel⟩
theorem vX1_pays : Cond.instanceMethod yX1_pays ∈ tblG := memT (tin_3 _ (List.mem_of_getElem? (i := 191) rfl)) rfl
theorem sX1_pays : Cond.selects RX1 yX1_pays yX1_pays ∈ tblG := memT (List.mem_append_left _ (List.mem_of_getElem? (i := 13) rfl)) rfl
abbrev mX2_init : MI := (yX2_init, cX2_init, 3, none)
theorem qX2_init : Cal mX2_init 2 := ⟨memT (tin_1 _ (List.mem_of_getElem? (i := 9) rfl)) rfl, memT (tin_2 _ (List.mem_of_getElem? (i := 18) rfl)) rfl, ⟨by decide +kernel, by decide +kernel⟩, by decide +kernel⟩
theorem vX2_init : Cond.instanceMethod yX2_init ∈ tblG := memT (tin_2 _ (List.mem_of_getElem? (i := 17) rfl)) rfl
abbrev mX2_comesIn : MI := (yX2_comesIn, cX2_comesIn, 4, (some (.boolean)))
theorem qX2_comesIn : Cal mX2_comesIn 3 := ⟨memT (tin_1 _ (List.mem_of_getElem? (i := 9) rfl)) rfl, memT (tin_3 _ (List.mem_of_getElem? (i := 148) rfl)) rfl, ⟨by decide +kernel, by decide +kernel⟩, by decide +kernel⟩
theorem vX2_comesIn : Cond.instanceMethod yX2_comesIn ∈ tblG := memT (tin_3 _ (List.mem_of_getElem? (i := 146) rfl)) rfl
theorem sX2_comesIn : Cond.selects RX2 yX2_comesIn yX2_comesIn ∈ tblG := memT (tin_3 _ (List.mem_of_getElem? (i := 147) rfl)) rfl
abbrev mX2_followPlan : MI := (yX2_followPlan, cX2_followPlan, 5, (some (.int)))
theorem qX2_followPlan : Cal mX2_followPlan 1 := ⟨memT (tin_1 _ (List.mem_of_getElem? (i := 9) rfl)) rfl, memT (tin_3 _ (List.mem_of_getElem? (i := 212) rfl)) rfl, ⟨by decide +kernel, by decide +kernel⟩, by decide +kernel⟩
theorem vX2_followPlan : Cond.instanceMethod yX2_followPlan ∈ tblG := memT (tin_3 _ (List.mem_of_getElem? (i := 210) rfl)) rfl
theorem sX2_followPlan : Cond.selects RX2 yX2_followPlan yX2_followPlan ∈ tblG := memT (tin_3 _ (List.mem_of_getElem? (i := 211) rfl)) rfl
abbrev mX2_bestRound : MI := (yX2_bestRound, cX2_bestRound, 6, (some ((.object "AskedIn$Round"))))
theorem qX2_bestRound : Cal mX2_bestRound 2 := ⟨memT (tin_1 _ (List.mem_of_getElem? (i := 9) rfl)) rfl, memT (tin_3 _ (List.mem_of_getElem? (i := 221) rfl)) rfl, ⟨by decide +kernel, by decide +kernel⟩, by decide +kernel⟩
theorem vX2_bestRound : Cond.instanceMethod yX2_bestRound ∈ tblG := memT (tin_3 _ (List.mem_of_getElem? (i := 219) rfl)) rfl
theorem sX2_bestRound : Cond.selects RX2 yX2_bestRound yX2_bestRound ∈ tblG := memT (tin_3 _ (List.mem_of_getElem? (i := 220) rfl)) rfl
abbrev mX2_leastGrain : MI := (yX2_leastGrain, cX2_leastGrain, 4, (some (.int)))
theorem qX2_leastGrain : Cal mX2_leastGrain 2 := ⟨memT (tin_1 _ (List.mem_of_getElem? (i := 9) rfl)) rfl, memT (tin_4 _ (List.mem_of_getElem? (i := 10) rfl)) rfl, ⟨by decide +kernel, by decide +kernel⟩, by decide +kernel⟩
theorem vX2_leastGrain : Cond.instanceMethod yX2_leastGrain ∈ tblG := memT (tin_4 _ (List.mem_of_getElem? (i := 8) rfl)) rfl
theorem sX2_leastGrain : Cond.selects RX2 yX2_leastGrain yX2_leastGrain ∈ tblG := memT (tin_4 _ (List.mem_of_getElem? (i := 9) rfl)) rfl
abbrev mX2_houseToStrew : MI := (yX2_houseToStrew, cX2_houseToStrew, 6, (some (.int)))
theorem qX2_houseToStrew : Cal mX2_houseToStrew 1 := ⟨memT (tin_1 _ (List.mem_of_getElem? (i := 9) rfl)) rfl, memT (tin_4 _ (List.mem_of_getElem? (i := 19) rfl)) rfl, ⟨by decide +kernel, by decide +kernel⟩, by decide +kernel⟩
theorem vX2_houseToStrew : Cond.instanceMethod yX2_houseToStrew ∈ tblG := memT (tin_4 _ (List.mem_of_getElem? (i := 17) rfl)) rfl
theorem sX2_houseToStrew : Cond.selects RX2 yX2_houseToStrew yX2_houseToStrew ∈ tblG := memT (tin_4 _ (List.mem_of_getElem? (i := 18) rfl)) rfl
abbrev mX2_pairsAfter : MI := (yX2_pairsAfter, cX2_pairsAfter, 5, (some (.int)))
theorem qX2_pairsAfter : Cal mX2_pairsAfter 2 := ⟨memT (tin_1 _ (List.mem_of_getElem? (i := 9) rfl)) rfl, memT (tin_4 _ (List.mem_of_getElem? (i := 28) rfl)) rfl, ⟨by decide +kernel, by decide +kernel⟩, by decide +kernel⟩
theorem vX2_pairsAfter : Cond.instanceMethod yX2_pairsAfter ∈ tblG := memT (tin_4 _ (List.mem_of_getElem? (i := 26) rfl)) rfl
theorem sX2_pairsAfter : Cond.selects RX2 yX2_pairsAfter yX2_pairsAfter ∈ tblG := memT (tin_4 _ (List.mem_of_getElem? (i := 27) rfl)) rfl
abbrev mX2_insAt : MI := (yX2_insAt, cX2_insAt, 6, (some (.int)))
theorem qX2_insAt : Cal mX2_insAt 2 := ⟨memT (tin_1 _ (List.mem_of_getElem? (i := 9) rfl)) rfl, memT (tin_4 _ (List.mem_of_getElem? (i := 23) rfl)) rfl, ⟨by decide +kernel, by decide +kernel⟩, by decide +kernel⟩
theorem vX2_insAt : Cond.instanceMethod yX2_insAt ∈ tblG := memT (tin_4 _ (List.mem_of_getElem? (i := 22) rfl)) rfl
theorem sX2_insAt : Cond.selects RX2 yX2_insAt yX2_insAt ∈ tblG := memT (List.mem_append_left _ (List.mem_of_getElem? (i := 15) rfl)) rfl
abbrev mX2_doneTogether : MI := (yX2_doneTogether, cX2_doneTogether, 7, (some (.int)))
theorem qX2_doneTogether : Cal mX2_doneTogether 3 := ⟨memT (tin_1 _ (List.mem_of_getElem? (i := 9) rfl)) rfl, memT (tin_4 _ (List.mem_of_getElem? (i := 36) rfl)) rfl, ⟨by decide +kernel, by decide +kernel⟩, by decide +kernel⟩
theorem vX2_doneTogether : Cond.instanceMethod yX2_doneTogether ∈ tblG := memT (tin_4 _ (List.mem_of_getElem? (i := 34) rfl)) rfl
theorem sX2_doneTogether : Cond.selects RX2 yX2_doneTogether yX2_doneTogether ∈ tblG := memT (tin_4 _ (List.mem_of_getElem? (i := 35) rfl)) rfl
abbrev mX2_walk : MI := (yX2_walk, cX2_walk, 3, (some (.int)))
theorem qX2_walk : Cal mX2_walk 2 := ⟨memT (tin_1 _ (List.mem_of_getElem? (i := 9) rfl)) rfl, memT (tin_4 _ (List.mem_of_getElem? (i := 40) rfl)) rfl, ⟨by decide +kernel, by decide +kernel⟩, by decide +kernel⟩
theorem vX2_walk : Cond.instanceMethod yX2_walk ∈ tblG := memT (tin_4 _ (List.mem_of_getElem? (i := 39) rfl)) rfl
theorem sX2_walk : Cond.selects RX2 yX2_walk yX2_walk ∈ tblG := memT (List.mem_append_left _ (List.mem_of_getElem? (i := 16) rfl)) rfl
abbrev mX2_whoBits : MI := (yX2_whoBits, cX2_whoBits, 7, (some (.int)))
theorem qX2_whoBits : Cal mX2_whoBits 0 := ⟨memT (tin_1 _ (List.mem_of_getElem? (i := 9) rfl)) rfl, memT (tin_4 _ (List.mem_of_getElem? (i := 61) rfl)) rfl, ⟨by decide +kernel, by decide +kernel⟩, by decide +kernel⟩
theorem vX2_whoBits : Cond.instanceMethod yX2_whoBits ∈ tblG := memT (tin_4 _ (List.mem_of_getElem? (i := 59) rfl)) rfl
theorem sX2_whoBits : Cond.selects RX2 yX2_whoBits yX2_whoBits ∈ tblG := memT (tin_4 _ (List.mem_of_getElem? (i := 60) rfl)) rfl
abbrev mX2_houseToWatch : MI := (yX2_houseToWatch, cX2_houseToWatch, 6, (some (.int)))
theorem qX2_houseToWatch : Cal mX2_houseToWatch 0 := ⟨memT (tin_1 _ (List.mem_of_getElem? (i := 9) rfl)) rfl, memT (tin_4 _ (List.mem_of_getElem? (i := 70) rfl)) rfl, ⟨by decide +kernel, by decide +kernel⟩, by decide +kernel⟩
theorem vX2_houseToWatch : Cond.instanceMethod yX2_houseToWatch ∈ tblG := memT (tin_4 _ (List.mem_of_getElem? (i := 68) rfl)) rfl
theorem sX2_houseToWatch : Cond.selects RX2 yX2_houseToWatch yX2_houseToWatch ∈ tblG := memT (tin_4 _ (List.mem_of_getElem? (i := 69) rfl)) rfl
abbrev mX2_apartAt : MI := (yX2_apartAt, cX2_apartAt, 5, (some (.int)))
theorem qX2_apartAt : Cal mX2_apartAt 2 := ⟨memT (tin_1 _ (List.mem_of_getElem? (i := 9) rfl)) rfl, memT (tin_4 _ (List.mem_of_getElem? (i := 75) rfl)) rfl, ⟨by decide +kernel, by decide +kernel⟩, by decide +kernel⟩
theorem vX2_apartAt : Cond.instanceMethod yX2_apartAt ∈ tblG := memT (tin_4 _ (List.mem_of_getElem? (i := 74) rfl)) rfl
theorem sX2_apartAt : Cond.selects RX2 yX2_apartAt yX2_apartAt ∈ tblG := memT (List.mem_append_left _ (List.mem_of_getElem? (i := 17) rfl)) rfl
abbrev mX2_leastStart : MI := (yX2_leastStart, cX2_leastStart, 4, (some (.int)))
theorem qX2_leastStart : Cal mX2_leastStart 2 := ⟨memT (tin_1 _ (List.mem_of_getElem? (i := 9) rfl)) rfl, memT (tin_4 _ (List.mem_of_getElem? (i := 84) rfl)) rfl, ⟨by decide +kernel, by decide +kernel⟩, by decide +kernel⟩
theorem vX2_leastStart : Cond.instanceMethod yX2_leastStart ∈ tblG := memT (tin_4 _ (List.mem_of_getElem? (i := 82) rfl)) rfl
theorem sX2_leastStart : Cond.selects RX2 yX2_leastStart yX2_leastStart ∈ tblG := memT (tin_4 _ (List.mem_of_getElem? (i := 83) rfl)) rfl
abbrev mX2_goodStarts : MI := (yX2_goodStarts, cX2_goodStarts, 5, (some (.int)))
theorem qX2_goodStarts : Cal mX2_goodStarts 2 := ⟨memT (tin_1 _ (List.mem_of_getElem? (i := 9) rfl)) rfl, memT (tin_4 _ (List.mem_of_getElem? (i := 93) rfl)) rfl, ⟨by decide +kernel, by decide +kernel⟩, by decide +kernel⟩
theorem vX2_goodStarts : Cond.instanceMethod yX2_goodStarts ∈ tblG := memT (tin_4 _ (List.mem_of_getElem? (i := 91) rfl)) rfl
theorem sX2_goodStarts : Cond.selects RX2 yX2_goodStarts yX2_goodStarts ∈ tblG := memT (tin_4 _ (List.mem_of_getElem? (i := 92) rfl)) rfl
abbrev mX2_minutesOfAll : MI := (yX2_minutesOfAll, cX2_minutesOfAll, 4, (some (.int)))
theorem qX2_minutesOfAll : Cal mX2_minutesOfAll 1 := ⟨memT (tin_1 _ (List.mem_of_getElem? (i := 9) rfl)) rfl, memT (tin_4 _ (List.mem_of_getElem? (i := 105) rfl)) rfl, ⟨by decide +kernel, by decide +kernel⟩, by decide +kernel⟩
theorem vX2_minutesOfAll : Cond.instanceMethod yX2_minutesOfAll ∈ tblG := memT (tin_4 _ (List.mem_of_getElem? (i := 103) rfl)) rfl
theorem sX2_minutesOfAll : Cond.selects RX2 yX2_minutesOfAll yX2_minutesOfAll ∈ tblG := memT (tin_4 _ (List.mem_of_getElem? (i := 104) rfl)) rfl
abbrev mX2_firstKeptOut : MI := (yX2_firstKeptOut, cX2_firstKeptOut, 4, (some (.int)))
theorem qX2_firstKeptOut : Cal mX2_firstKeptOut 0 := ⟨memT (tin_1 _ (List.mem_of_getElem? (i := 9) rfl)) rfl, memT (tin_4 _ (List.mem_of_getElem? (i := 117) rfl)) rfl, ⟨by decide +kernel, by decide +kernel⟩, by decide +kernel⟩
theorem vX2_firstKeptOut : Cond.instanceMethod yX2_firstKeptOut ∈ tblG := memT (tin_4 _ (List.mem_of_getElem? (i := 115) rfl)) rfl
theorem sX2_firstKeptOut : Cond.selects RX2 yX2_firstKeptOut yX2_firstKeptOut ∈ tblG := memT (tin_4 _ (List.mem_of_getElem? (i := 116) rfl)) rfl
abbrev mX3_init : MI := (yX3_init, cX3_init, 1, none)
theorem qX3_init : Cal mX3_init 0 := ⟨memT (tin_1 _ (List.mem_of_getElem? (i := 10) rfl)) rfl, memT (tin_2 _ (List.mem_of_getElem? (i := 24) rfl)) rfl, ⟨by decide +kernel, by decide +kernel⟩, by decide +kernel⟩
theorem vX3_init : Cond.instanceMethod yX3_init ∈ tblG := memT (tin_2 _ (List.mem_of_getElem? (i := 23) rfl)) rfl
abbrev mX3_start : MI := (yX3_start, cX3_start, 3, none)
theorem qX3_start : Cal mX3_start 1 := ⟨memT (tin_1 _ (List.mem_of_getElem? (i := 10) rfl)) rfl, memT (tin_3 _ (List.mem_of_getElem? (i := 225) rfl)) rfl, ⟨by decide +kernel, by decide +kernel⟩, by decide +kernel⟩
theorem vX3_start : Cond.instanceMethod yX3_start ∈ tblG := memT (tin_3 _ (List.mem_of_getElem? (i := 223) rfl)) rfl
theorem sX3_start : Cond.selects RX3 yX3_start yX3_start ∈ tblG := memT (tin_3 _ (List.mem_of_getElem? (i := 224) rfl)) rfl
abbrev mX3_weigh : MI := (yX3_weigh, cX3_weigh, 3, none)
theorem qX3_weigh : Cal mX3_weigh 2 := ⟨memT (tin_1 _ (List.mem_of_getElem? (i := 10) rfl)) rfl, memT (tin_3 _ (List.mem_of_getElem? (i := 231) rfl)) rfl, ⟨by decide +kernel, by decide +kernel⟩, by decide +kernel⟩
theorem vX3_weigh : Cond.instanceMethod yX3_weigh ∈ tblG := memT (tin_3 _ (List.mem_of_getElem? (i := 229) rfl)) rfl
theorem sX3_weigh : Cond.selects RX3 yX3_weigh yX3_weigh ∈ tblG := memT (tin_3 _ (List.mem_of_getElem? (i := 230) rfl)) rfl
abbrev mX3_advance : MI := (yX3_advance, cX3_advance, 5, (some (.boolean)))
theorem qX3_advance : Cal mX3_advance 0 := ⟨memT (tin_1 _ (List.mem_of_getElem? (i := 10) rfl)) rfl, memT (tin_3 _ (List.mem_of_getElem? (i := 238) rfl)) rfl, ⟨by decide +kernel, by decide +kernel⟩, by decide +kernel⟩
theorem vX3_advance : Cond.instanceMethod yX3_advance ∈ tblG := memT (tin_3 _ (List.mem_of_getElem? (i := 236) rfl)) rfl
theorem sX3_advance : Cond.selects RX3 yX3_advance yX3_advance ∈ tblG := memT (tin_3 _ (List.mem_of_getElem? (i := 237) rfl)) rfl
abbrev mX3_swap : MI := (yX3_swap, cX3_swap, 4, none)
theorem qX3_swap : Cal mX3_swap 2 := ⟨memT (tin_1 _ (List.mem_of_getElem? (i := 10) rfl)) rfl, memT (tin_4 _ (List.mem_of_getElem? (i := 2) rfl)) rfl, ⟨by decide +kernel, by decide +kernel⟩, by decide +kernel⟩
theorem vX3_swap : Cond.instanceMethod yX3_swap ∈ tblG := memT (tin_4 _ (List.mem_of_getElem? (i := 1) rfl)) rfl
theorem sX3_swap : Cond.selects RX3 yX3_swap yX3_swap ∈ tblG := memT (List.mem_append_left _ (List.mem_of_getElem? (i := 14) rfl)) rfl
abbrev mX4_init : MI := (yX4_init, cX4_init, 3, none)
theorem qX4_init : Cal mX4_init 1 := ⟨memT (tin_1 _ (List.mem_of_getElem? (i := 3) rfl)) rfl, memT (tin_1 _ (List.mem_of_getElem? (i := 39) rfl)) rfl, ⟨by decide +kernel, by decide +kernel⟩, by decide +kernel⟩
theorem vX4_init : Cond.instanceMethod yX4_init ∈ tblG := memT (tin_1 _ (List.mem_of_getElem? (i := 38) rfl)) rfl
abbrev mX4_add : MI := (yX4_add, cX4_add, 3, (some (.int)))
theorem qX4_add : Cal mX4_add 2 := ⟨memT (tin_1 _ (List.mem_of_getElem? (i := 3) rfl)) rfl, memT (tin_3 _ (List.mem_of_getElem? (i := 204) rfl)) rfl, ⟨by decide +kernel, by decide +kernel⟩, by decide +kernel⟩
theorem vX4_add : Cond.instanceMethod yX4_add ∈ tblG := memT (tin_3 _ (List.mem_of_getElem? (i := 202) rfl)) rfl
theorem sX4_add : Cond.selects RX4 yX4_add yX4_add ∈ tblG := memT (tin_3 _ (List.mem_of_getElem? (i := 203) rfl)) rfl
abbrev mX4_empty : MI := (yX4_empty, cX4_empty, 1, (some (.int)))
theorem qX4_empty : Cal mX4_empty 0 := ⟨memT (tin_1 _ (List.mem_of_getElem? (i := 3) rfl)) rfl, memT (tin_3 _ (List.mem_of_getElem? (i := 200) rfl)) rfl, ⟨by decide +kernel, by decide +kernel⟩, by decide +kernel⟩
theorem vX4_empty : Cond.instanceMethod yX4_empty ∈ tblG := memT (tin_3 _ (List.mem_of_getElem? (i := 198) rfl)) rfl
theorem sX4_empty : Cond.selects RX4 yX4_empty yX4_empty ∈ tblG := memT (tin_3 _ (List.mem_of_getElem? (i := 199) rfl)) rfl
abbrev mX4_copy : MI := (yX4_copy, cX4_copy, 2, none)
theorem qX4_copy : Cal mX4_copy 1 := ⟨memT (tin_1 _ (List.mem_of_getElem? (i := 3) rfl)) rfl, memT (tin_4 _ (List.mem_of_getElem? (i := 134) rfl)) rfl, ⟨by decide +kernel, by decide +kernel⟩, by decide +kernel⟩
theorem vX4_copy : Cond.instanceMethod yX4_copy ∈ tblG := memT (tin_4 _ (List.mem_of_getElem? (i := 132) rfl)) rfl
theorem sX4_copy : Cond.selects RX4 yX4_copy yX4_copy ∈ tblG := memT (tin_4 _ (List.mem_of_getElem? (i := 133) rfl)) rfl
abbrev mX5_init : MI := (yX5_init, cX5_init, 1, none)
theorem qX5_init : Cal mX5_init 0 := ⟨memT (tin_1 _ (List.mem_of_getElem? (i := 2) rfl)) rfl, memT (tin_1 _ (List.mem_of_getElem? (i := 33) rfl)) rfl, ⟨by decide +kernel, by decide +kernel⟩, by decide +kernel⟩
theorem vX5_init : Cond.instanceMethod yX5_init ∈ tblG := memT (tin_1 _ (List.mem_of_getElem? (i := 32) rfl)) rfl
abbrev mX5_hasHouse : MI := (yX5_hasHouse, cX5_hasHouse, 2, (some (.boolean)))
theorem qX5_hasHouse : Cal mX5_hasHouse 1 := ⟨memT (tin_1 _ (List.mem_of_getElem? (i := 2) rfl)) rfl, memT (tin_2 _ (List.mem_of_getElem? (i := 151) rfl)) rfl, ⟨by decide +kernel, by decide +kernel⟩, by decide +kernel⟩
theorem vX5_hasHouse : Cond.instanceMethod yX5_hasHouse ∈ tblG := memT (tin_2 _ (List.mem_of_getElem? (i := 149) rfl)) rfl
theorem sX5_hasHouse : Cond.selects RX5 yX5_hasHouse yX5_hasHouse ∈ tblG := memT (tin_2 _ (List.mem_of_getElem? (i := 150) rfl)) rfl
abbrev mX5_hasFolk : MI := (yX5_hasFolk, cX5_hasFolk, 2, (some (.boolean)))
theorem qX5_hasFolk : Cal mX5_hasFolk 1 := ⟨memT (tin_1 _ (List.mem_of_getElem? (i := 2) rfl)) rfl, memT (tin_2 _ (List.mem_of_getElem? (i := 167) rfl)) rfl, ⟨by decide +kernel, by decide +kernel⟩, by decide +kernel⟩
theorem vX5_hasFolk : Cond.instanceMethod yX5_hasFolk ∈ tblG := memT (tin_2 _ (List.mem_of_getElem? (i := 165) rfl)) rfl
theorem sX5_hasFolk : Cond.selects RX5 yX5_hasFolk yX5_hasFolk ∈ tblG := memT (tin_2 _ (List.mem_of_getElem? (i := 166) rfl)) rfl
abbrev mX5_build : MI := (yX5_build, cX5_build, 5, (some (.int)))
theorem qX5_build : Cal mX5_build 3 := ⟨memT (tin_1 _ (List.mem_of_getElem? (i := 2) rfl)) rfl, memT (tin_2 _ (List.mem_of_getElem? (i := 139) rfl)) rfl, ⟨by decide +kernel, by decide +kernel⟩, by decide +kernel⟩
theorem vX5_build : Cond.instanceMethod yX5_build ∈ tblG := memT (tin_2 _ (List.mem_of_getElem? (i := 137) rfl)) rfl
theorem sX5_build : Cond.selects RX5 yX5_build yX5_build ∈ tblG := memT (tin_2 _ (List.mem_of_getElem? (i := 138) rfl)) rfl
abbrev mX5_settle : MI := (yX5_settle, cX5_settle, 4, none)
theorem qX5_settle : Cal mX5_settle 3 := ⟨memT (tin_1 _ (List.mem_of_getElem? (i := 2) rfl)) rfl, memT (tin_2 _ (List.mem_of_getElem? (i := 143) rfl)) rfl, ⟨by decide +kernel, by decide +kernel⟩, by decide +kernel⟩
theorem vX5_settle : Cond.instanceMethod yX5_settle ∈ tblG := memT (tin_2 _ (List.mem_of_getElem? (i := 141) rfl)) rfl
theorem sX5_settle : Cond.selects RX5 yX5_settle yX5_settle ∈ tblG := memT (tin_2 _ (List.mem_of_getElem? (i := 142) rfl)) rfl
abbrev mX5_wake : MI := (yX5_wake, cX5_wake, 5, (some (.int)))
theorem qX5_wake : Cal mX5_wake 3 := ⟨memT (tin_1 _ (List.mem_of_getElem? (i := 2) rfl)) rfl, memT (tin_2 _ (List.mem_of_getElem? (i := 155) rfl)) rfl, ⟨by decide +kernel, by decide +kernel⟩, by decide +kernel⟩
theorem vX5_wake : Cond.instanceMethod yX5_wake ∈ tblG := memT (tin_2 _ (List.mem_of_getElem? (i := 153) rfl)) rfl
theorem sX5_wake : Cond.selects RX5 yX5_wake yX5_wake ∈ tblG := memT (tin_2 _ (List.mem_of_getElem? (i := 154) rfl)) rfl
abbrev mX5_copy : MI := (yX5_copy, cX5_copy, 2, none)
theorem qX5_copy : Cal mX5_copy 1 := ⟨memT (tin_1 _ (List.mem_of_getElem? (i := 2) rfl)) rfl, memT (tin_4 _ (List.mem_of_getElem? (i := 129) rfl)) rfl, ⟨by decide +kernel, by decide +kernel⟩, by decide +kernel⟩
theorem vX5_copy : Cond.instanceMethod yX5_copy ∈ tblG := memT (tin_4 _ (List.mem_of_getElem? (i := 127) rfl)) rfl
theorem sX5_copy : Cond.selects RX5 yX5_copy yX5_copy ∈ tblG := memT (tin_4 _ (List.mem_of_getElem? (i := 128) rfl)) rfl
abbrev mX6_init : MI := (yX6_init, cX6_init, 1, none)
theorem qX6_init : Cal mX6_init 0 := ⟨memT (tin_1 _ (List.mem_of_getElem? (i := 7) rfl)) rfl, memT (tin_1 _ (List.mem_of_getElem? (i := 198) rfl)) rfl, ⟨by decide +kernel, by decide +kernel⟩, by decide +kernel⟩
theorem vX6_init : Cond.instanceMethod yX6_init ∈ tblG := memT (tin_1 _ (List.mem_of_getElem? (i := 197) rfl)) rfl
abbrev mX6_become : MI := (yX6_become, cX6_become, 4, (some (.int)))
theorem qX6_become : Cal mX6_become 3 := ⟨memT (tin_1 _ (List.mem_of_getElem? (i := 7) rfl)) rfl, memT (tin_4 _ (List.mem_of_getElem? (i := 198) rfl)) rfl, ⟨by decide +kernel, by decide +kernel⟩, by decide +kernel⟩
theorem vX6_become : Cond.instanceMethod yX6_become ∈ tblG := memT (tin_4 _ (List.mem_of_getElem? (i := 196) rfl)) rfl
theorem sX6_become : Cond.selects RX6 yX6_become yX6_become ∈ tblG := memT (tin_4 _ (List.mem_of_getElem? (i := 197) rfl)) rfl
abbrev mX6_cut : MI := (yX6_cut, cX6_cut, 3, (some (.long)))
theorem qX6_cut : Cal mX6_cut 2 := ⟨memT (tin_1 _ (List.mem_of_getElem? (i := 7) rfl)) rfl, memT (tin_4 _ (List.mem_of_getElem? (i := 208) rfl)) rfl, ⟨by decide +kernel, by decide +kernel⟩, by decide +kernel⟩
theorem vX6_cut : Cond.static yX6_cut ∈ tblG := memT (tin_4 _ (List.mem_of_getElem? (i := 207) rfl)) rfl
abbrev mX7_init : MI := (yX7_init, cX7_init, 1, none)
theorem qX7_init : Cal mX7_init 0 := ⟨memT (tin_1 _ (List.mem_of_getElem? (i := 5) rfl)) rfl, memT (tin_1 _ (List.mem_of_getElem? (i := 142) rfl)) rfl, ⟨by decide +kernel, by decide +kernel⟩, by decide +kernel⟩
theorem vX7_init : Cond.instanceMethod yX7_init ∈ tblG := memT (tin_1 _ (List.mem_of_getElem? (i := 141) rfl)) rfl
abbrev mX7_add : MI := (yX7_add, cX7_add, 2, (some (.int)))
theorem qX7_add : Cal mX7_add 1 := ⟨memT (tin_1 _ (List.mem_of_getElem? (i := 5) rfl)) rfl, memT (tin_2 _ (List.mem_of_getElem? (i := 215) rfl)) rfl, ⟨by decide +kernel, by decide +kernel⟩, by decide +kernel⟩
theorem vX7_add : Cond.instanceMethod yX7_add ∈ tblG := memT (tin_2 _ (List.mem_of_getElem? (i := 213) rfl)) rfl
theorem sX7_add : Cond.selects RX7 yX7_add yX7_add ∈ tblG := memT (tin_2 _ (List.mem_of_getElem? (i := 214) rfl)) rfl
abbrev mX7_compile : MI := (yX7_compile, cX7_compile, 3, none)
theorem qX7_compile : Cal mX7_compile 1 := ⟨memT (tin_1 _ (List.mem_of_getElem? (i := 5) rfl)) rfl, memT (tin_2 _ (List.mem_of_getElem? (i := 223) rfl)) rfl, ⟨by decide +kernel, by decide +kernel⟩, by decide +kernel⟩
theorem vX7_compile : Cond.instanceMethod yX7_compile ∈ tblG := memT (tin_2 _ (List.mem_of_getElem? (i := 221) rfl)) rfl
theorem sX7_compile : Cond.selects RX7 yX7_compile yX7_compile ∈ tblG := memT (tin_2 _ (List.mem_of_getElem? (i := 222) rfl)) rfl
abbrev mX7_clause : MI := (yX7_clause, cX7_clause, 3, none)
theorem qX7_clause : Cal mX7_clause 0 := ⟨memT (tin_1 _ (List.mem_of_getElem? (i := 5) rfl)) rfl, memT (tin_2 _ (List.mem_of_getElem? (i := 227) rfl)) rfl, ⟨by decide +kernel, by decide +kernel⟩, by decide +kernel⟩
theorem vX7_clause : Cond.instanceMethod yX7_clause ∈ tblG := memT (tin_2 _ (List.mem_of_getElem? (i := 226) rfl)) rfl
theorem sX7_clause : Cond.selects RX7 yX7_clause yX7_clause ∈ tblG := memT (List.mem_append_left _ (List.mem_of_getElem? (i := 2) rfl)) rfl
abbrev mX7_either : MI := (yX7_either, cX7_either, 5, none)
theorem qX7_either : Cal mX7_either 1 := ⟨memT (tin_1 _ (List.mem_of_getElem? (i := 5) rfl)) rfl, memT (tin_3 _ (List.mem_of_getElem? (i := 117) rfl)) rfl, ⟨by decide +kernel, by decide +kernel⟩, by decide +kernel⟩
theorem vX7_either : Cond.instanceMethod yX7_either ∈ tblG := memT (tin_3 _ (List.mem_of_getElem? (i := 116) rfl)) rfl
theorem sX7_either : Cond.selects RX7 yX7_either yX7_either ∈ tblG := memT (List.mem_append_left _ (List.mem_of_getElem? (i := 7) rfl)) rfl
abbrev mX7_part : MI := (yX7_part, cX7_part, 5, none)
theorem qX7_part : Cal mX7_part 1 := ⟨memT (tin_1 _ (List.mem_of_getElem? (i := 5) rfl)) rfl, memT (tin_3 _ (List.mem_of_getElem? (i := 121) rfl)) rfl, ⟨by decide +kernel, by decide +kernel⟩, by decide +kernel⟩
theorem vX7_part : Cond.instanceMethod yX7_part ∈ tblG := memT (tin_3 _ (List.mem_of_getElem? (i := 120) rfl)) rfl
theorem sX7_part : Cond.selects RX7 yX7_part yX7_part ∈ tblG := memT (List.mem_append_left _ (List.mem_of_getElem? (i := 8) rfl)) rfl
abbrev mX7_number : MI := (yX7_number, cX7_number, 2, (some (.int)))
theorem qX7_number : Cal mX7_number 0 := ⟨memT (tin_1 _ (List.mem_of_getElem? (i := 5) rfl)) rfl, memT (tin_3 _ (List.mem_of_getElem? (i := 50) rfl)) rfl, ⟨by decide +kernel, by decide +kernel⟩, by decide +kernel⟩
theorem vX7_number : Cond.instanceMethod yX7_number ∈ tblG := memT (tin_3 _ (List.mem_of_getElem? (i := 49) rfl)) rfl
theorem sX7_number : Cond.selects RX7 yX7_number yX7_number ∈ tblG := memT (List.mem_append_left _ (List.mem_of_getElem? (i := 5) rfl)) rfl
abbrev mX7_word : MI := (yX7_word, cX7_word, 3, none)
theorem qX7_word : Cal mX7_word 1 := ⟨memT (tin_1 _ (List.mem_of_getElem? (i := 5) rfl)) rfl, memT (tin_2 _ (List.mem_of_getElem? (i := 238) rfl)) rfl, ⟨by decide +kernel, by decide +kernel⟩, by decide +kernel⟩
theorem vX7_word : Cond.instanceMethod yX7_word ∈ tblG := memT (tin_2 _ (List.mem_of_getElem? (i := 237) rfl)) rfl
theorem sX7_word : Cond.selects RX7 yX7_word yX7_word ∈ tblG := memT (List.mem_append_left _ (List.mem_of_getElem? (i := 4) rfl)) rfl
abbrev mX7_choice : MI := (yX7_choice, cX7_choice, 3, (some (.int)))
theorem qX7_choice : Cal mX7_choice 1 := ⟨memT (tin_1 _ (List.mem_of_getElem? (i := 5) rfl)) rfl, memT (tin_3 _ (List.mem_of_getElem? (i := 55) rfl)) rfl, ⟨by decide +kernel, by decide +kernel⟩, by decide +kernel⟩
theorem vX7_choice : Cond.instanceMethod yX7_choice ∈ tblG := memT (tin_3 _ (List.mem_of_getElem? (i := 54) rfl)) rfl
theorem sX7_choice : Cond.selects RX7 yX7_choice yX7_choice ∈ tblG := memT (List.mem_append_left _ (List.mem_of_getElem? (i := 6) rfl)) rfl
abbrev mX7_take : MI := (yX7_take, cX7_take, 3, (some (.boolean)))
theorem qX7_take : Cal mX7_take 1 := ⟨memT (tin_1 _ (List.mem_of_getElem? (i := 5) rfl)) rfl, memT (tin_2 _ (List.mem_of_getElem? (i := 231) rfl)) rfl, ⟨by decide +kernel, by decide +kernel⟩, by decide +kernel⟩
theorem vX7_take : Cond.instanceMethod yX7_take ∈ tblG := memT (tin_2 _ (List.mem_of_getElem? (i := 230) rfl)) rfl
theorem sX7_take : Cond.selects RX7 yX7_take yX7_take ∈ tblG := memT (List.mem_append_left _ (List.mem_of_getElem? (i := 3) rfl)) rfl
abbrev mX7_note : MI := (yX7_note, cX7_note, 3, none)
theorem qX7_note : Cal mX7_note 2 := ⟨memT (tin_1 _ (List.mem_of_getElem? (i := 5) rfl)) rfl, memT (tin_3 _ (List.mem_of_getElem? (i := 125) rfl)) rfl, ⟨by decide +kernel, by decide +kernel⟩, by decide +kernel⟩
theorem vX7_note : Cond.instanceMethod yX7_note ∈ tblG := memT (tin_3 _ (List.mem_of_getElem? (i := 124) rfl)) rfl
theorem sX7_note : Cond.selects RX7 yX7_note yX7_note ∈ tblG := memT (List.mem_append_left _ (List.mem_of_getElem? (i := 9) rfl)) rfl
abbrev mX9_init : MI := (yX9_init, cX9_init, 1, none)
theorem qX9_init : Cal mX9_init 0 := ⟨memT (tin_1 _ (List.mem_of_getElem? (i := 8) rfl)) rfl, memT (tin_1 _ (List.mem_of_getElem? (i := 220) rfl)) rfl, ⟨by decide +kernel, by decide +kernel⟩, by decide +kernel⟩
theorem vX9_init : Cond.instanceMethod yX9_init ∈ tblG := memT (tin_1 _ (List.mem_of_getElem? (i := 219) rfl)) rfl
abbrev mX9_add : MI := (yX9_add, cX9_add, 4, (some (.int)))
theorem qX9_add : Cal mX9_add 2 := ⟨memT (tin_1 _ (List.mem_of_getElem? (i := 8) rfl)) rfl, memT (tin_3 _ (List.mem_of_getElem? (i := 132) rfl)) rfl, ⟨by decide +kernel, by decide +kernel⟩, by decide +kernel⟩
theorem vX9_add : Cond.instanceMethod yX9_add ∈ tblG := memT (tin_3 _ (List.mem_of_getElem? (i := 130) rfl)) rfl
theorem sX9_add : Cond.selects RX9 yX9_add yX9_add ∈ tblG := memT (tin_3 _ (List.mem_of_getElem? (i := 131) rfl)) rfl
abbrev mX9_dawnOf : MI := (yX9_dawnOf, cX9_dawnOf, 2, (some (.int)))
theorem qX9_dawnOf : Cal mX9_dawnOf 1 := ⟨memT (tin_1 _ (List.mem_of_getElem? (i := 8) rfl)) rfl, memT (tin_3 _ (List.mem_of_getElem? (i := 140) rfl)) rfl, ⟨by decide +kernel, by decide +kernel⟩, by decide +kernel⟩
theorem vX9_dawnOf : Cond.instanceMethod yX9_dawnOf ∈ tblG := memT (tin_3 _ (List.mem_of_getElem? (i := 138) rfl)) rfl
theorem sX9_dawnOf : Cond.selects RX9 yX9_dawnOf yX9_dawnOf ∈ tblG := memT (tin_3 _ (List.mem_of_getElem? (i := 139) rfl)) rfl
abbrev mX9_weigh : MI := (yX9_weigh, cX9_weigh, 13, none)
theorem qX9_weigh : Cal mX9_weigh 4 := ⟨memT (tin_1 _ (List.mem_of_getElem? (i := 8) rfl)) rfl, memT (tin_2 _ (List.mem_of_getElem? (i := 171) rfl)) rfl, ⟨by decide +kernel, by decide +kernel⟩, by decide +kernel⟩
theorem vX9_weigh : Cond.instanceMethod yX9_weigh ∈ tblG := memT (tin_2 _ (List.mem_of_getElem? (i := 169) rfl)) rfl
theorem sX9_weigh : Cond.selects RX9 yX9_weigh yX9_weigh ∈ tblG := memT (tin_2 _ (List.mem_of_getElem? (i := 170) rfl)) rfl
abbrev mX9_holds : MI := (yX9_holds, cX9_holds, 5, (some (.boolean)))
theorem qX9_holds : Cal mX9_holds 2 := ⟨memT (tin_1 _ (List.mem_of_getElem? (i := 8) rfl)) rfl, memT (tin_2 _ (List.mem_of_getElem? (i := 176) rfl)) rfl, ⟨by decide +kernel, by decide +kernel⟩, by decide +kernel⟩
theorem vX9_holds : Cond.instanceMethod yX9_holds ∈ tblG := memT (tin_2 _ (List.mem_of_getElem? (i := 175) rfl)) rfl
theorem sX9_holds : Cond.selects RX9 yX9_holds yX9_holds ∈ tblG := memT (List.mem_append_left _ (List.mem_of_getElem? (i := 1) rfl)) rfl
abbrev mX10_init : MI := (yX10_init, cX10_init, 3, none)
theorem qX10_init : Cal mX10_init 0 := ⟨memT (tin_1 _ (List.mem_of_getElem? (i := 1) rfl)) rfl, memT (tin_1 _ (List.mem_of_getElem? (i := 25) rfl)) rfl, ⟨by decide +kernel, by decide +kernel⟩, by decide +kernel⟩
theorem vX10_init : Cond.instanceMethod yX10_init ∈ tblG := memT (tin_1 _ (List.mem_of_getElem? (i := 24) rfl)) rfl
abbrev mX10_house : MI := (yX10_house, cX10_house, 4, (some (.int)))
theorem qX10_house : Cal mX10_house 3 := ⟨memT (tin_1 _ (List.mem_of_getElem? (i := 1) rfl)) rfl, memT (tin_2 _ (List.mem_of_getElem? (i := 132) rfl)) rfl, ⟨by decide +kernel, by decide +kernel⟩, by decide +kernel⟩
theorem vX10_house : Cond.instanceMethod yX10_house ∈ tblG := memT (tin_2 _ (List.mem_of_getElem? (i := 130) rfl)) rfl
theorem sX10_house : Cond.selects RX10 yX10_house yX10_house ∈ tblG := memT (tin_2 _ (List.mem_of_getElem? (i := 131) rfl)) rfl
abbrev mX10_folk : MI := (yX10_folk, cX10_folk, 4, (some (.int)))
theorem qX10_folk : Cal mX10_folk 3 := ⟨memT (tin_1 _ (List.mem_of_getElem? (i := 1) rfl)) rfl, memT (tin_2 _ (List.mem_of_getElem? (i := 147) rfl)) rfl, ⟨by decide +kernel, by decide +kernel⟩, by decide +kernel⟩
theorem vX10_folk : Cond.instanceMethod yX10_folk ∈ tblG := memT (tin_2 _ (List.mem_of_getElem? (i := 145) rfl)) rfl
theorem sX10_folk : Cond.selects RX10 yX10_folk yX10_folk ∈ tblG := memT (tin_2 _ (List.mem_of_getElem? (i := 146) rfl)) rfl
abbrev mX10_of : MI := (yX10_of, cX10_of, 3, (some (.int)))
theorem qX10_of : Cal mX10_of 2 := ⟨memT (tin_1 _ (List.mem_of_getElem? (i := 1) rfl)) rfl, memT (tin_2 _ (List.mem_of_getElem? (i := 159) rfl)) rfl, ⟨by decide +kernel, by decide +kernel⟩, by decide +kernel⟩
theorem vX10_of : Cond.instanceMethod yX10_of ∈ tblG := memT (tin_2 _ (List.mem_of_getElem? (i := 157) rfl)) rfl
theorem sX10_of : Cond.selects RX10 yX10_of yX10_of ∈ tblG := memT (tin_2 _ (List.mem_of_getElem? (i := 158) rfl)) rfl
abbrev mX10_who : MI := (yX10_who, cX10_who, 3, (some (.int)))
theorem qX10_who : Cal mX10_who 2 := ⟨memT (tin_1 _ (List.mem_of_getElem? (i := 1) rfl)) rfl, memT (tin_2 _ (List.mem_of_getElem? (i := 180) rfl)) rfl, ⟨by decide +kernel, by decide +kernel⟩, by decide +kernel⟩
theorem vX10_who : Cond.instanceMethod yX10_who ∈ tblG := memT (tin_2 _ (List.mem_of_getElem? (i := 178) rfl)) rfl
theorem sX10_who : Cond.selects RX10 yX10_who yX10_who ∈ tblG := memT (tin_2 _ (List.mem_of_getElem? (i := 179) rfl)) rfl
abbrev mX10_strew : MI := (yX10_strew, cX10_strew, 4, (some (.int)))
theorem qX10_strew : Cal mX10_strew 2 := ⟨memT (tin_1 _ (List.mem_of_getElem? (i := 1) rfl)) rfl, memT (tin_2 _ (List.mem_of_getElem? (i := 184) rfl)) rfl, ⟨by decide +kernel, by decide +kernel⟩, by decide +kernel⟩
theorem vX10_strew : Cond.instanceMethod yX10_strew ∈ tblG := memT (tin_2 _ (List.mem_of_getElem? (i := 182) rfl)) rfl
theorem sX10_strew : Cond.selects RX10 yX10_strew yX10_strew ∈ tblG := memT (tin_2 _ (List.mem_of_getElem? (i := 183) rfl)) rfl
abbrev mX10_ask : MI := (yX10_ask, cX10_ask, 5, (some (.int)))
theorem qX10_ask : Cal mX10_ask 3 := ⟨memT (tin_1 _ (List.mem_of_getElem? (i := 1) rfl)) rfl, memT (tin_2 _ (List.mem_of_getElem? (i := 188) rfl)) rfl, ⟨by decide +kernel, by decide +kernel⟩, by decide +kernel⟩
theorem vX10_ask : Cond.instanceMethod yX10_ask ∈ tblG := memT (tin_2 _ (List.mem_of_getElem? (i := 186) rfl)) rfl
theorem sX10_ask : Cond.selects RX10 yX10_ask yX10_ask ∈ tblG := memT (tin_2 _ (List.mem_of_getElem? (i := 187) rfl)) rfl
abbrev mX10_sack : MI := (yX10_sack, cX10_sack, 4, (some (.int)))
theorem qX10_sack : Cal mX10_sack 2 := ⟨memT (tin_1 _ (List.mem_of_getElem? (i := 1) rfl)) rfl, memT (tin_2 _ (List.mem_of_getElem? (i := 198) rfl)) rfl, ⟨by decide +kernel, by decide +kernel⟩, by decide +kernel⟩
theorem vX10_sack : Cond.instanceMethod yX10_sack ∈ tblG := memT (tin_2 _ (List.mem_of_getElem? (i := 196) rfl)) rfl
theorem sX10_sack : Cond.selects RX10 yX10_sack yX10_sack ∈ tblG := memT (tin_2 _ (List.mem_of_getElem? (i := 197) rfl)) rfl
abbrev mX10_sell : MI := (yX10_sell, cX10_sell, 5, (some (.int)))
theorem qX10_sell : Cal mX10_sell 3 := ⟨memT (tin_1 _ (List.mem_of_getElem? (i := 1) rfl)) rfl, memT (tin_2 _ (List.mem_of_getElem? (i := 202) rfl)) rfl, ⟨by decide +kernel, by decide +kernel⟩, by decide +kernel⟩
theorem vX10_sell : Cond.instanceMethod yX10_sell ∈ tblG := memT (tin_2 _ (List.mem_of_getElem? (i := 200) rfl)) rfl
theorem sX10_sell : Cond.selects RX10 yX10_sell yX10_sell ∈ tblG := memT (tin_2 _ (List.mem_of_getElem? (i := 201) rfl)) rfl
abbrev mX10_row : MI := (yX10_row, cX10_row, 5, (some (.int)))
theorem qX10_row : Cal mX10_row 3 := ⟨memT (tin_1 _ (List.mem_of_getElem? (i := 1) rfl)) rfl, memT (tin_2 _ (List.mem_of_getElem? (i := 207) rfl)) rfl, ⟨by decide +kernel, by decide +kernel⟩, by decide +kernel⟩
theorem vX10_row : Cond.instanceMethod yX10_row ∈ tblG := memT (tin_2 _ (List.mem_of_getElem? (i := 205) rfl)) rfl
theorem sX10_row : Cond.selects RX10 yX10_row yX10_row ∈ tblG := memT (tin_2 _ (List.mem_of_getElem? (i := 206) rfl)) rfl
abbrev mX10_feed : MI := (yX10_feed, cX10_feed, 2, (some (.int)))
theorem qX10_feed : Cal mX10_feed 1 := ⟨memT (tin_1 _ (List.mem_of_getElem? (i := 1) rfl)) rfl, memT (tin_2 _ (List.mem_of_getElem? (i := 211) rfl)) rfl, ⟨by decide +kernel, by decide +kernel⟩, by decide +kernel⟩
theorem vX10_feed : Cond.instanceMethod yX10_feed ∈ tblG := memT (tin_2 _ (List.mem_of_getElem? (i := 209) rfl)) rfl
theorem sX10_feed : Cond.selects RX10 yX10_feed yX10_feed ∈ tblG := memT (tin_2 _ (List.mem_of_getElem? (i := 210) rfl)) rfl
abbrev mX10_town : MI := (yX10_town, cX10_town, 1, (some (.int)))
theorem qX10_town : Cal mX10_town 0 := ⟨memT (tin_1 _ (List.mem_of_getElem? (i := 1) rfl)) rfl, memT (tin_2 _ (List.mem_of_getElem? (i := 219) rfl)) rfl, ⟨by decide +kernel, by decide +kernel⟩, by decide +kernel⟩
theorem vX10_town : Cond.instanceMethod yX10_town ∈ tblG := memT (tin_2 _ (List.mem_of_getElem? (i := 217) rfl)) rfl
theorem sX10_town : Cond.selects RX10 yX10_town yX10_town ∈ tblG := memT (tin_2 _ (List.mem_of_getElem? (i := 218) rfl)) rfl
abbrev mX10_dawn : MI := (yX10_dawn, cX10_dawn, 1, (some (.int)))
theorem qX10_dawn : Cal mX10_dawn 0 := ⟨memT (tin_1 _ (List.mem_of_getElem? (i := 1) rfl)) rfl, memT (tin_3 _ (List.mem_of_getElem? (i := 136) rfl)) rfl, ⟨by decide +kernel, by decide +kernel⟩, by decide +kernel⟩
theorem vX10_dawn : Cond.instanceMethod yX10_dawn ∈ tblG := memT (tin_3 _ (List.mem_of_getElem? (i := 134) rfl)) rfl
theorem sX10_dawn : Cond.selects RX10 yX10_dawn yX10_dawn ∈ tblG := memT (tin_3 _ (List.mem_of_getElem? (i := 135) rfl)) rfl
abbrev mX10_visit : MI := (yX10_visit, cX10_visit, 5, (some (.int)))
theorem qX10_visit : Cal mX10_visit 3 := ⟨memT (tin_1 _ (List.mem_of_getElem? (i := 1) rfl)) rfl, memT (tin_3 _ (List.mem_of_getElem? (i := 144) rfl)) rfl, ⟨by decide +kernel, by decide +kernel⟩, by decide +kernel⟩
theorem vX10_visit : Cond.instanceMethod yX10_visit ∈ tblG := memT (tin_3 _ (List.mem_of_getElem? (i := 142) rfl)) rfl
theorem sX10_visit : Cond.selects RX10 yX10_visit yX10_visit ∈ tblG := memT (tin_3 _ (List.mem_of_getElem? (i := 143) rfl)) rfl
abbrev mX10_way : MI := (yX10_way, cX10_way, 2, (some (.int)))
theorem qX10_way : Cal mX10_way 1 := ⟨memT (tin_1 _ (List.mem_of_getElem? (i := 1) rfl)) rfl, memT (tin_3 _ (List.mem_of_getElem? (i := 196) rfl)) rfl, ⟨by decide +kernel, by decide +kernel⟩, by decide +kernel⟩
theorem vX10_way : Cond.instanceMethod yX10_way ∈ tblG := memT (tin_3 _ (List.mem_of_getElem? (i := 194) rfl)) rfl
theorem sX10_way : Cond.selects RX10 yX10_way yX10_way ∈ tblG := memT (tin_3 _ (List.mem_of_getElem? (i := 195) rfl)) rfl
abbrev mX10_goes : MI := (yX10_goes, cX10_goes, 4, (some (.int)))
theorem qX10_goes : Cal mX10_goes 2 := ⟨memT (tin_1 _ (List.mem_of_getElem? (i := 1) rfl)) rfl, memT (tin_3 _ (List.mem_of_getElem? (i := 208) rfl)) rfl, ⟨by decide +kernel, by decide +kernel⟩, by decide +kernel⟩
theorem vX10_goes : Cond.instanceMethod yX10_goes ∈ tblG := memT (tin_3 _ (List.mem_of_getElem? (i := 206) rfl)) rfl
theorem sX10_goes : Cond.selects RX10 yX10_goes yX10_goes ∈ tblG := memT (tin_3 _ (List.mem_of_getElem? (i := 207) rfl)) rfl
abbrev mX10_round : MI := (yX10_round, cX10_round, 7, (some (.int)))
theorem qX10_round : Cal mX10_round 3 := ⟨memT (tin_1 _ (List.mem_of_getElem? (i := 1) rfl)) rfl, memT (tin_3 _ (List.mem_of_getElem? (i := 216) rfl)) rfl, ⟨by decide +kernel, by decide +kernel⟩, by decide +kernel⟩
theorem vX10_round : Cond.instanceMethod yX10_round ∈ tblG := memT (tin_3 _ (List.mem_of_getElem? (i := 214) rfl)) rfl
theorem sX10_round : Cond.selects RX10 yX10_round yX10_round ∈ tblG := memT (tin_3 _ (List.mem_of_getElem? (i := 215) rfl)) rfl
abbrev mX10_keep : MI := (yX10_keep, cX10_keep, 3, (some (.int)))
theorem qX10_keep : Cal mX10_keep 2 := ⟨memT (tin_1 _ (List.mem_of_getElem? (i := 1) rfl)) rfl, memT (tin_4 _ (List.mem_of_getElem? (i := 6) rfl)) rfl, ⟨by decide +kernel, by decide +kernel⟩, by decide +kernel⟩
theorem vX10_keep : Cond.instanceMethod yX10_keep ∈ tblG := memT (tin_4 _ (List.mem_of_getElem? (i := 4) rfl)) rfl
theorem sX10_keep : Cond.selects RX10 yX10_keep yX10_keep ∈ tblG := memT (tin_4 _ (List.mem_of_getElem? (i := 5) rfl)) rfl
abbrev mX10_more : MI := (yX10_more, cX10_more, 4, (some (.int)))
theorem qX10_more : Cal mX10_more 2 := ⟨memT (tin_1 _ (List.mem_of_getElem? (i := 1) rfl)) rfl, memT (tin_4 _ (List.mem_of_getElem? (i := 15) rfl)) rfl, ⟨by decide +kernel, by decide +kernel⟩, by decide +kernel⟩
theorem vX10_more : Cond.instanceMethod yX10_more ∈ tblG := memT (tin_4 _ (List.mem_of_getElem? (i := 13) rfl)) rfl
theorem sX10_more : Cond.selects RX10 yX10_more yX10_more ∈ tblG := memT (tin_4 _ (List.mem_of_getElem? (i := 14) rfl)) rfl
abbrev mX10_share : MI := (yX10_share, cX10_share, 8, (some (.int)))
theorem qX10_share : Cal mX10_share 4 := ⟨memT (tin_1 _ (List.mem_of_getElem? (i := 1) rfl)) rfl, memT (tin_4 _ (List.mem_of_getElem? (i := 32) rfl)) rfl, ⟨by decide +kernel, by decide +kernel⟩, by decide +kernel⟩
theorem vX10_share : Cond.instanceMethod yX10_share ∈ tblG := memT (tin_4 _ (List.mem_of_getElem? (i := 30) rfl)) rfl
theorem sX10_share : Cond.selects RX10 yX10_share yX10_share ∈ tblG := memT (tin_4 _ (List.mem_of_getElem? (i := 31) rfl)) rfl
abbrev mX10_watch : MI := (yX10_watch, cX10_watch, 3, (some (.int)))
theorem qX10_watch : Cal mX10_watch 2 := ⟨memT (tin_1 _ (List.mem_of_getElem? (i := 1) rfl)) rfl, memT (tin_4 _ (List.mem_of_getElem? (i := 53) rfl)) rfl, ⟨by decide +kernel, by decide +kernel⟩, by decide +kernel⟩
theorem vX10_watch : Cond.instanceMethod yX10_watch ∈ tblG := memT (tin_4 _ (List.mem_of_getElem? (i := 51) rfl)) rfl
theorem sX10_watch : Cond.selects RX10 yX10_watch yX10_watch ∈ tblG := memT (tin_4 _ (List.mem_of_getElem? (i := 52) rfl)) rfl
abbrev mX10_suspects : MI := (yX10_suspects, cX10_suspects, 1, (some (.int)))
theorem qX10_suspects : Cal mX10_suspects 0 := ⟨memT (tin_1 _ (List.mem_of_getElem? (i := 1) rfl)) rfl, memT (tin_4 _ (List.mem_of_getElem? (i := 57) rfl)) rfl, ⟨by decide +kernel, by decide +kernel⟩, by decide +kernel⟩
theorem vX10_suspects : Cond.instanceMethod yX10_suspects ∈ tblG := memT (tin_4 _ (List.mem_of_getElem? (i := 55) rfl)) rfl
theorem sX10_suspects : Cond.selects RX10 yX10_suspects yX10_suspects ∈ tblG := memT (tin_4 _ (List.mem_of_getElem? (i := 56) rfl)) rfl
abbrev mX10_next : MI := (yX10_next, cX10_next, 1, (some (.int)))
theorem qX10_next : Cal mX10_next 0 := ⟨memT (tin_1 _ (List.mem_of_getElem? (i := 1) rfl)) rfl, memT (tin_4 _ (List.mem_of_getElem? (i := 66) rfl)) rfl, ⟨by decide +kernel, by decide +kernel⟩, by decide +kernel⟩
theorem vX10_next : Cond.instanceMethod yX10_next ∈ tblG := memT (tin_4 _ (List.mem_of_getElem? (i := 64) rfl)) rfl
theorem sX10_next : Cond.selects RX10 yX10_next yX10_next ∈ tblG := memT (tin_4 _ (List.mem_of_getElem? (i := 65) rfl)) rfl
abbrev mX10_when : MI := (yX10_when, cX10_when, 3, (some (.int)))
theorem qX10_when : Cal mX10_when 2 := ⟨memT (tin_1 _ (List.mem_of_getElem? (i := 1) rfl)) rfl, memT (tin_4 _ (List.mem_of_getElem? (i := 80) rfl)) rfl, ⟨by decide +kernel, by decide +kernel⟩, by decide +kernel⟩
theorem vX10_when : Cond.instanceMethod yX10_when ∈ tblG := memT (tin_4 _ (List.mem_of_getElem? (i := 78) rfl)) rfl
theorem sX10_when : Cond.selects RX10 yX10_when yX10_when ∈ tblG := memT (tin_4 _ (List.mem_of_getElem? (i := 79) rfl)) rfl
abbrev mX10_odds : MI := (yX10_odds, cX10_odds, 4, (some (.long)))
theorem qX10_odds : Cal mX10_odds 3 := ⟨memT (tin_1 _ (List.mem_of_getElem? (i := 1) rfl)) rfl, memT (tin_4 _ (List.mem_of_getElem? (i := 88) rfl)) rfl, ⟨by decide +kernel, by decide +kernel⟩, by decide +kernel⟩
theorem vX10_odds : Cond.instanceMethod yX10_odds ∈ tblG := memT (tin_4 _ (List.mem_of_getElem? (i := 86) rfl)) rfl
theorem sX10_odds : Cond.selects RX10 yX10_odds yX10_odds ∈ tblG := memT (tin_4 _ (List.mem_of_getElem? (i := 87) rfl)) rfl
abbrev mX10_mean : MI := (yX10_mean, cX10_mean, 3, (some (.long)))
theorem qX10_mean : Cal mX10_mean 2 := ⟨memT (tin_1 _ (List.mem_of_getElem? (i := 1) rfl)) rfl, memT (tin_4 _ (List.mem_of_getElem? (i := 101) rfl)) rfl, ⟨by decide +kernel, by decide +kernel⟩, by decide +kernel⟩
theorem vX10_mean : Cond.instanceMethod yX10_mean ∈ tblG := memT (tin_4 _ (List.mem_of_getElem? (i := 99) rfl)) rfl
theorem sX10_mean : Cond.selects RX10 yX10_mean yX10_mean ∈ tblG := memT (tin_4 _ (List.mem_of_getElem? (i := 100) rfl)) rfl
abbrev mX10_book : MI := (yX10_book, cX10_book, 3, (some (.int)))
theorem qX10_book : Cal mX10_book 2 := ⟨memT (tin_1 _ (List.mem_of_getElem? (i := 1) rfl)) rfl, memT (tin_4 _ (List.mem_of_getElem? (i := 109) rfl)) rfl, ⟨by decide +kernel, by decide +kernel⟩, by decide +kernel⟩
theorem vX10_book : Cond.instanceMethod yX10_book ∈ tblG := memT (tin_4 _ (List.mem_of_getElem? (i := 107) rfl)) rfl
theorem sX10_book : Cond.selects RX10 yX10_book yX10_book ∈ tblG := memT (tin_4 _ (List.mem_of_getElem? (i := 108) rfl)) rfl
abbrev mX10_looked : MI := (yX10_looked, cX10_looked, 1, (some (.int)))
theorem qX10_looked : Cal mX10_looked 0 := ⟨memT (tin_1 _ (List.mem_of_getElem? (i := 1) rfl)) rfl, memT (tin_4 _ (List.mem_of_getElem? (i := 113) rfl)) rfl, ⟨by decide +kernel, by decide +kernel⟩, by decide +kernel⟩
theorem vX10_looked : Cond.instanceMethod yX10_looked ∈ tblG := memT (tin_4 _ (List.mem_of_getElem? (i := 111) rfl)) rfl
theorem sX10_looked : Cond.selects RX10 yX10_looked yX10_looked ∈ tblG := memT (tin_4 _ (List.mem_of_getElem? (i := 112) rfl)) rfl
abbrev mX10_judge : MI := (yX10_judge, cX10_judge, 4, (some (.int)))
theorem qX10_judge : Cal mX10_judge 2 := ⟨memT (tin_1 _ (List.mem_of_getElem? (i := 1) rfl)) rfl, memT (tin_4 _ (List.mem_of_getElem? (i := 121) rfl)) rfl, ⟨by decide +kernel, by decide +kernel⟩, by decide +kernel⟩
theorem vX10_judge : Cond.instanceMethod yX10_judge ∈ tblG := memT (tin_4 _ (List.mem_of_getElem? (i := 119) rfl)) rfl
theorem sX10_judge : Cond.selects RX10 yX10_judge yX10_judge ∈ tblG := memT (tin_4 _ (List.mem_of_getElem? (i := 120) rfl)) rfl
abbrev mX10_image : MI := (yX10_image, cX10_image, 1, (some (.int)))
theorem qX10_image : Cal mX10_image 0 := ⟨memT (tin_1 _ (List.mem_of_getElem? (i := 1) rfl)) rfl, memT (tin_4 _ (List.mem_of_getElem? (i := 125) rfl)) rfl, ⟨by decide +kernel, by decide +kernel⟩, by decide +kernel⟩
theorem vX10_image : Cond.instanceMethod yX10_image ∈ tblG := memT (tin_4 _ (List.mem_of_getElem? (i := 123) rfl)) rfl
theorem sX10_image : Cond.selects RX10 yX10_image yX10_image ∈ tblG := memT (tin_4 _ (List.mem_of_getElem? (i := 124) rfl)) rfl
abbrev mX10_undo : MI := (yX10_undo, cX10_undo, 1, (some (.int)))
theorem qX10_undo : Cal mX10_undo 0 := ⟨memT (tin_1 _ (List.mem_of_getElem? (i := 1) rfl)) rfl, memT (tin_4 _ (List.mem_of_getElem? (i := 140) rfl)) rfl, ⟨by decide +kernel, by decide +kernel⟩, by decide +kernel⟩
theorem vX10_undo : Cond.instanceMethod yX10_undo ∈ tblG := memT (tin_4 _ (List.mem_of_getElem? (i := 138) rfl)) rfl
theorem sX10_undo : Cond.selects RX10 yX10_undo yX10_undo ∈ tblG := memT (tin_4 _ (List.mem_of_getElem? (i := 139) rfl)) rfl
abbrev mX10_act : MI := (yX10_act, cX10_act, 4, (some (.int)))
theorem qX10_act : Cal mX10_act 3 := ⟨memT (tin_1 _ (List.mem_of_getElem? (i := 1) rfl)) rfl, memT (tin_4 _ (List.mem_of_getElem? (i := 144) rfl)) rfl, ⟨by decide +kernel, by decide +kernel⟩, by decide +kernel⟩
theorem vX10_act : Cond.instanceMethod yX10_act ∈ tblG := memT (tin_4 _ (List.mem_of_getElem? (i := 142) rfl)) rfl
theorem sX10_act : Cond.selects RX10 yX10_act yX10_act ∈ tblG := memT (tin_4 _ (List.mem_of_getElem? (i := 143) rfl)) rfl
abbrev mX10_trace : MI := (yX10_trace, cX10_trace, 2, (some (.int)))
theorem qX10_trace : Cal mX10_trace 1 := ⟨memT (tin_1 _ (List.mem_of_getElem? (i := 1) rfl)) rfl, memT (tin_4 _ (List.mem_of_getElem? (i := 173) rfl)) rfl, ⟨by decide +kernel, by decide +kernel⟩, by decide +kernel⟩
theorem vX10_trace : Cond.instanceMethod yX10_trace ∈ tblG := memT (tin_4 _ (List.mem_of_getElem? (i := 171) rfl)) rfl
theorem sX10_trace : Cond.selects RX10 yX10_trace yX10_trace ∈ tblG := memT (tin_4 _ (List.mem_of_getElem? (i := 172) rfl)) rfl
abbrev mX10_taken : MI := (yX10_taken, cX10_taken, 4, (some (.int)))
theorem qX10_taken : Cal mX10_taken 2 := ⟨memT (tin_1 _ (List.mem_of_getElem? (i := 1) rfl)) rfl, memT (tin_4 _ (List.mem_of_getElem? (i := 182) rfl)) rfl, ⟨by decide +kernel, by decide +kernel⟩, by decide +kernel⟩
theorem vX10_taken : Cond.instanceMethod yX10_taken ∈ tblG := memT (tin_4 _ (List.mem_of_getElem? (i := 180) rfl)) rfl
theorem sX10_taken : Cond.selects RX10 yX10_taken yX10_taken ∈ tblG := memT (tin_4 _ (List.mem_of_getElem? (i := 181) rfl)) rfl
abbrev mX10_count : MI := (yX10_count, cX10_count, 2, (some (.int)))
theorem qX10_count : Cal mX10_count 1 := ⟨memT (tin_1 _ (List.mem_of_getElem? (i := 1) rfl)) rfl, memT (tin_4 _ (List.mem_of_getElem? (i := 190) rfl)) rfl, ⟨by decide +kernel, by decide +kernel⟩, by decide +kernel⟩
theorem vX10_count : Cond.instanceMethod yX10_count ∈ tblG := memT (tin_4 _ (List.mem_of_getElem? (i := 188) rfl)) rfl
theorem sX10_count : Cond.selects RX10 yX10_count yX10_count ∈ tblG := memT (tin_4 _ (List.mem_of_getElem? (i := 189) rfl)) rfl
abbrev mX10_tape : MI := (yX10_tape, cX10_tape, 4, (some (.int)))
theorem qX10_tape : Cal mX10_tape 3 := ⟨memT (tin_1 _ (List.mem_of_getElem? (i := 1) rfl)) rfl, memT (tin_4 _ (List.mem_of_getElem? (i := 194) rfl)) rfl, ⟨by decide +kernel, by decide +kernel⟩, by decide +kernel⟩
theorem vX10_tape : Cond.instanceMethod yX10_tape ∈ tblG := memT (tin_4 _ (List.mem_of_getElem? (i := 192) rfl)) rfl
theorem sX10_tape : Cond.selects RX10 yX10_tape yX10_tape ∈ tblG := memT (tin_4 _ (List.mem_of_getElem? (i := 193) rfl)) rfl
abbrev mX10_item : MI := (yX10_item, cX10_item, 5, (some (.int)))
theorem qX10_item : Cal mX10_item 3 := ⟨memT (tin_1 _ (List.mem_of_getElem? (i := 1) rfl)) rfl, memT (tin_4 _ (List.mem_of_getElem? (i := 205) rfl)) rfl, ⟨by decide +kernel, by decide +kernel⟩, by decide +kernel⟩
theorem vX10_item : Cond.instanceMethod yX10_item ∈ tblG := memT (tin_4 _ (List.mem_of_getElem? (i := 203) rfl)) rfl
theorem sX10_item : Cond.selects RX10 yX10_item yX10_item ∈ tblG := memT (tin_4 _ (List.mem_of_getElem? (i := 204) rfl)) rfl
abbrev mX10_read : MI := (yX10_read, cX10_read, 3, (some (.long)))
theorem qX10_read : Cal mX10_read 2 := ⟨memT (tin_1 _ (List.mem_of_getElem? (i := 1) rfl)) rfl, memT (tin_4 _ (List.mem_of_getElem? (i := 212) rfl)) rfl, ⟨by decide +kernel, by decide +kernel⟩, by decide +kernel⟩
theorem vX10_read : Cond.instanceMethod yX10_read ∈ tblG := memT (tin_4 _ (List.mem_of_getElem? (i := 210) rfl)) rfl
theorem sX10_read : Cond.selects RX10 yX10_read yX10_read ∈ tblG := memT (tin_4 _ (List.mem_of_getElem? (i := 211) rfl)) rfl
abbrev mX10_shift : MI := (yX10_shift, cX10_shift, 6, (some (.int)))
theorem qX10_shift : Cal mX10_shift 5 := ⟨memT (tin_1 _ (List.mem_of_getElem? (i := 1) rfl)) rfl, memT (tin_4 _ (List.mem_of_getElem? (i := 216) rfl)) rfl, ⟨by decide +kernel, by decide +kernel⟩, by decide +kernel⟩
theorem vX10_shift : Cond.instanceMethod yX10_shift ∈ tblG := memT (tin_4 _ (List.mem_of_getElem? (i := 214) rfl)) rfl
theorem sX10_shift : Cond.selects RX10 yX10_shift yX10_shift ∈ tblG := memT (tin_4 _ (List.mem_of_getElem? (i := 215) rfl)) rfl
abbrev mX10_paceAt : MI := (yX10_paceAt, cX10_paceAt, 3, (some (.int)))
theorem qX10_paceAt : Cal mX10_paceAt 2 := ⟨memT (tin_1 _ (List.mem_of_getElem? (i := 1) rfl)) rfl, memT (tin_2 _ (List.mem_of_getElem? (i := 163) rfl)) rfl, ⟨by decide +kernel, by decide +kernel⟩, by decide +kernel⟩
theorem vX10_paceAt : Cond.instanceMethod yX10_paceAt ∈ tblG := memT (tin_2 _ (List.mem_of_getElem? (i := 162) rfl)) rfl
theorem sX10_paceAt : Cond.selects RX10 yX10_paceAt yX10_paceAt ∈ tblG := memT (List.mem_append_left _ (List.mem_of_getElem? (i := 0) rfl)) rfl
abbrev mX10_isUpTo : MI := (yX10_isUpTo, cX10_isUpTo, 2, (some (.boolean)))
theorem qX10_isUpTo : Cal mX10_isUpTo 2 := ⟨memT (tin_1 _ (List.mem_of_getElem? (i := 1) rfl)) rfl, memT (tin_2 _ (List.mem_of_getElem? (i := 135) rfl)) rfl, ⟨by decide +kernel, by decide +kernel⟩, by decide +kernel⟩
theorem vX10_isUpTo : Cond.static yX10_isUpTo ∈ tblG := memT (tin_2 _ (List.mem_of_getElem? (i := 134) rfl)) rfl
abbrev mX10_bit : MI := (yX10_bit, cX10_bit, 2, (some (.int)))
theorem qX10_bit : Cal mX10_bit 2 := ⟨memT (tin_1 _ (List.mem_of_getElem? (i := 1) rfl)) rfl, memT (tin_2 _ (List.mem_of_getElem? (i := 191) rfl)) rfl, ⟨by decide +kernel, by decide +kernel⟩, by decide +kernel⟩
theorem vX10_bit : Cond.static yX10_bit ∈ tblG := memT (tin_2 _ (List.mem_of_getElem? (i := 190) rfl)) rfl
abbrev mX10_withBit : MI := (yX10_withBit, cX10_withBit, 3, (some (.int)))
theorem qX10_withBit : Cal mX10_withBit 3 := ⟨memT (tin_1 _ (List.mem_of_getElem? (i := 1) rfl)) rfl, memT (tin_2 _ (List.mem_of_getElem? (i := 194) rfl)) rfl, ⟨by decide +kernel, by decide +kernel⟩, by decide +kernel⟩
theorem vX10_withBit : Cond.static yX10_withBit ∈ tblG := memT (tin_2 _ (List.mem_of_getElem? (i := 193) rfl)) rfl
abbrev mX10_isUnder : MI := (yX10_isUnder, cX10_isUnder, 4, (some (.boolean)))
theorem qX10_isUnder : Cal mX10_isUnder 2 := ⟨memT (tin_1 _ (List.mem_of_getElem? (i := 1) rfl)) rfl, memT (tin_4 _ (List.mem_of_getElem? (i := 185) rfl)) rfl, ⟨by decide +kernel, by decide +kernel⟩, by decide +kernel⟩
theorem vX10_isUnder : Cond.static yX10_isUnder ∈ tblG := memT (tin_4 _ (List.mem_of_getElem? (i := 184) rfl)) rfl
abbrev mX10_roundedUp : MI := (yX10_roundedUp, cX10_roundedUp, 2, (some (.int)))
theorem qX10_roundedUp : Cal mX10_roundedUp 2 := ⟨memT (tin_1 _ (List.mem_of_getElem? (i := 1) rfl)) rfl, memT (tin_3 _ (List.mem_of_getElem? (i := 156) rfl)) rfl, ⟨by decide +kernel, by decide +kernel⟩, by decide +kernel⟩
theorem vX10_roundedUp : Cond.static yX10_roundedUp ∈ tblG := memT (tin_3 _ (List.mem_of_getElem? (i := 155) rfl)) rfl
abbrev mX10_sideOfFraction : MI := (yX10_sideOfFraction, cX10_sideOfFraction, 12, (some (.long)))
theorem qX10_sideOfFraction : Cal mX10_sideOfFraction 3 := ⟨memT (tin_1 _ (List.mem_of_getElem? (i := 1) rfl)) rfl, memT (tin_4 _ (List.mem_of_getElem? (i := 97) rfl)) rfl, ⟨by decide +kernel, by decide +kernel⟩, by decide +kernel⟩
theorem vX10_sideOfFraction : Cond.static yX10_sideOfFraction ∈ tblG := memT (tin_4 _ (List.mem_of_getElem? (i := 96) rfl)) rfl
abbrev mX11_init : MI := (yX11_init, cX11_init, 1, none)
theorem qX11_init : Cal mX11_init 0 := ⟨memT (tin_1 _ (List.mem_of_getElem? (i := 12) rfl)) rfl, memT (tin_4 _ (List.mem_of_getElem? (i := 222) rfl)) rfl, ⟨by decide +kernel, by decide +kernel⟩, by decide +kernel⟩
theorem vX11_init : Cond.instanceMethod yX11_init ∈ tblG := memT (tin_4 _ (List.mem_of_getElem? (i := 221) rfl)) rfl
abbrev mX11_in : MI := (yX11_in, cX11_in, 4, (some (.boolean)))
theorem qX11_in : Cal mX11_in 3 := ⟨memT (tin_1 _ (List.mem_of_getElem? (i := 12) rfl)) rfl, memT (tin_5 _ (List.mem_of_getElem? (i := 203) rfl)) rfl, ⟨by decide +kernel, by decide +kernel⟩, by decide +kernel⟩
theorem vX11_in : Cond.instanceMethod yX11_in ∈ tblG := memT (tin_5 _ (List.mem_of_getElem? (i := 202) rfl)) rfl
theorem sX11_in : Cond.selects RX11 yX11_in yX11_in ∈ tblG := memT (List.mem_append_left _ (List.mem_of_getElem? (i := 21) rfl)) rfl
abbrev mX11_has : MI := (yX11_has, cX11_has, 3, (some (.boolean)))
theorem qX11_has : Cal mX11_has 2 := ⟨memT (tin_1 _ (List.mem_of_getElem? (i := 12) rfl)) rfl, memT (tin_6 _ (List.mem_of_getElem? (i := 127) rfl)) rfl, ⟨by decide +kernel, by decide +kernel⟩, by decide +kernel⟩
theorem vX11_has : Cond.instanceMethod yX11_has ∈ tblG := memT (tin_6 _ (List.mem_of_getElem? (i := 126) rfl)) rfl
theorem sX11_has : Cond.selects RX11 yX11_has yX11_has ∈ tblG := memT (List.mem_append_left _ (List.mem_of_getElem? (i := 50) rfl)) rfl
abbrev mX11_ones : MI := (yX11_ones, cX11_ones, 4, (some (.int)))
theorem qX11_ones : Cal mX11_ones 1 := ⟨memT (tin_1 _ (List.mem_of_getElem? (i := 12) rfl)) rfl, memT (tin_6 _ (List.mem_of_getElem? (i := 144) rfl)) rfl, ⟨by decide +kernel, by decide +kernel⟩, by decide +kernel⟩
theorem vX11_ones : Cond.instanceMethod yX11_ones ∈ tblG := memT (tin_6 _ (List.mem_of_getElem? (i := 143) rfl)) rfl
theorem sX11_ones : Cond.selects RX11 yX11_ones yX11_ones ∈ tblG := memT (List.mem_append_left _ (List.mem_of_getElem? (i := 54) rfl)) rfl
abbrev mX11_isHouse : MI := (yX11_isHouse, cX11_isHouse, 2, (some (.boolean)))
theorem qX11_isHouse : Cal mX11_isHouse 1 := ⟨memT (tin_1 _ (List.mem_of_getElem? (i := 12) rfl)) rfl, memT (tin_5 _ (List.mem_of_getElem? (i := 215) rfl)) rfl, ⟨by decide +kernel, by decide +kernel⟩, by decide +kernel⟩
theorem vX11_isHouse : Cond.instanceMethod yX11_isHouse ∈ tblG := memT (tin_5 _ (List.mem_of_getElem? (i := 214) rfl)) rfl
theorem sX11_isHouse : Cond.selects RX11 yX11_isHouse yX11_isHouse ∈ tblG := memT (List.mem_append_left _ (List.mem_of_getElem? (i := 23) rfl)) rfl
abbrev mX11_isFolk : MI := (yX11_isFolk, cX11_isFolk, 2, (some (.boolean)))
theorem qX11_isFolk : Cal mX11_isFolk 1 := ⟨memT (tin_1 _ (List.mem_of_getElem? (i := 12) rfl)) rfl, memT (tin_5 _ (List.mem_of_getElem? (i := 223) rfl)) rfl, ⟨by decide +kernel, by decide +kernel⟩, by decide +kernel⟩
theorem vX11_isFolk : Cond.instanceMethod yX11_isFolk ∈ tblG := memT (tin_5 _ (List.mem_of_getElem? (i := 222) rfl)) rfl
theorem sX11_isFolk : Cond.selects RX11 yX11_isFolk yX11_isFolk ∈ tblG := memT (List.mem_append_left _ (List.mem_of_getElem? (i := 24) rfl)) rfl
abbrev mX11_becomes : MI := (yX11_becomes, cX11_becomes, 5, none)
theorem qX11_becomes : Cal mX11_becomes 3 := ⟨memT (tin_1 _ (List.mem_of_getElem? (i := 12) rfl)) rfl, memT (tin_5 _ (List.mem_of_getElem? (i := 207) rfl)) rfl, ⟨by decide +kernel, by decide +kernel⟩, by decide +kernel⟩
theorem vX11_becomes : Cond.instanceMethod yX11_becomes ∈ tblG := memT (tin_5 _ (List.mem_of_getElem? (i := 206) rfl)) rfl
theorem sX11_becomes : Cond.selects RX11 yX11_becomes yX11_becomes ∈ tblG := memT (List.mem_append_left _ (List.mem_of_getElem? (i := 22) rfl)) rfl
abbrev mX11_house : MI := (yX11_house, cX11_house, 4, (some (.int)))
theorem qX11_house : Cal mX11_house 3 := ⟨memT (tin_1 _ (List.mem_of_getElem? (i := 12) rfl)) rfl, memT (tin_5 _ (List.mem_of_getElem? (i := 199) rfl)) rfl, ⟨by decide +kernel, by decide +kernel⟩, by decide +kernel⟩
theorem vX11_house : Cond.instanceMethod yX11_house ∈ tblG := memT (tin_5 _ (List.mem_of_getElem? (i := 197) rfl)) rfl
theorem sX11_house : Cond.selects RX11 yX11_house yX11_house ∈ tblG := memT (tin_5 _ (List.mem_of_getElem? (i := 198) rfl)) rfl
abbrev mX11_folk : MI := (yX11_folk, cX11_folk, 4, (some (.int)))
theorem qX11_folk : Cal mX11_folk 3 := ⟨memT (tin_1 _ (List.mem_of_getElem? (i := 12) rfl)) rfl, memT (tin_5 _ (List.mem_of_getElem? (i := 211) rfl)) rfl, ⟨by decide +kernel, by decide +kernel⟩, by decide +kernel⟩
theorem vX11_folk : Cond.instanceMethod yX11_folk ∈ tblG := memT (tin_5 _ (List.mem_of_getElem? (i := 209) rfl)) rfl
theorem sX11_folk : Cond.selects RX11 yX11_folk yX11_folk ∈ tblG := memT (tin_5 _ (List.mem_of_getElem? (i := 210) rfl)) rfl
abbrev mX11_who : MI := (yX11_who, cX11_who, 3, (some (.int)))
theorem qX11_who : Cal mX11_who 2 := ⟨memT (tin_1 _ (List.mem_of_getElem? (i := 12) rfl)) rfl, memT (tin_5 _ (List.mem_of_getElem? (i := 219) rfl)) rfl, ⟨by decide +kernel, by decide +kernel⟩, by decide +kernel⟩
theorem vX11_who : Cond.instanceMethod yX11_who ∈ tblG := memT (tin_5 _ (List.mem_of_getElem? (i := 217) rfl)) rfl
theorem sX11_who : Cond.selects RX11 yX11_who yX11_who ∈ tblG := memT (tin_5 _ (List.mem_of_getElem? (i := 218) rfl)) rfl
abbrev mX11_strew : MI := (yX11_strew, cX11_strew, 4, (some (.int)))
theorem qX11_strew : Cal mX11_strew 2 := ⟨memT (tin_1 _ (List.mem_of_getElem? (i := 12) rfl)) rfl, memT (tin_5 _ (List.mem_of_getElem? (i := 227) rfl)) rfl, ⟨by decide +kernel, by decide +kernel⟩, by decide +kernel⟩
theorem vX11_strew : Cond.instanceMethod yX11_strew ∈ tblG := memT (tin_5 _ (List.mem_of_getElem? (i := 225) rfl)) rfl
theorem sX11_strew : Cond.selects RX11 yX11_strew yX11_strew ∈ tblG := memT (tin_5 _ (List.mem_of_getElem? (i := 226) rfl)) rfl
abbrev mX11_ask : MI := (yX11_ask, cX11_ask, 5, (some (.int)))
theorem qX11_ask : Cal mX11_ask 3 := ⟨memT (tin_1 _ (List.mem_of_getElem? (i := 12) rfl)) rfl, memT (tin_5 _ (List.mem_of_getElem? (i := 231) rfl)) rfl, ⟨by decide +kernel, by decide +kernel⟩, by decide +kernel⟩
theorem vX11_ask : Cond.instanceMethod yX11_ask ∈ tblG := memT (tin_5 _ (List.mem_of_getElem? (i := 229) rfl)) rfl
theorem sX11_ask : Cond.selects RX11 yX11_ask yX11_ask ∈ tblG := memT (tin_5 _ (List.mem_of_getElem? (i := 230) rfl)) rfl
abbrev mX11_sack : MI := (yX11_sack, cX11_sack, 4, (some (.int)))
theorem qX11_sack : Cal mX11_sack 2 := ⟨memT (tin_1 _ (List.mem_of_getElem? (i := 12) rfl)) rfl, memT (tin_5 _ (List.mem_of_getElem? (i := 235) rfl)) rfl, ⟨by decide +kernel, by decide +kernel⟩, by decide +kernel⟩
theorem vX11_sack : Cond.instanceMethod yX11_sack ∈ tblG := memT (tin_5 _ (List.mem_of_getElem? (i := 233) rfl)) rfl
theorem sX11_sack : Cond.selects RX11 yX11_sack yX11_sack ∈ tblG := memT (tin_5 _ (List.mem_of_getElem? (i := 234) rfl)) rfl
abbrev mX11_sell : MI := (yX11_sell, cX11_sell, 5, (some (.int)))
theorem qX11_sell : Cal mX11_sell 3 := ⟨memT (tin_1 _ (List.mem_of_getElem? (i := 12) rfl)) rfl, memT (tin_5 _ (List.mem_of_getElem? (i := 239) rfl)) rfl, ⟨by decide +kernel, by decide +kernel⟩, by decide +kernel⟩
theorem vX11_sell : Cond.instanceMethod yX11_sell ∈ tblG := memT (tin_5 _ (List.mem_of_getElem? (i := 237) rfl)) rfl
theorem sX11_sell : Cond.selects RX11 yX11_sell yX11_sell ∈ tblG := memT (tin_5 _ (List.mem_of_getElem? (i := 238) rfl)) rfl
abbrev mX11_row : MI := (yX11_row, cX11_row, 5, (some (.int)))
theorem qX11_row : Cal mX11_row 3 := ⟨memT (tin_1 _ (List.mem_of_getElem? (i := 12) rfl)) rfl, memT (tin_6 _ (List.mem_of_getElem? (i := 3) rfl)) rfl, ⟨by decide +kernel, by decide +kernel⟩, by decide +kernel⟩
theorem vX11_row : Cond.instanceMethod yX11_row ∈ tblG := memT (tin_6 _ (List.mem_of_getElem? (i := 1) rfl)) rfl
theorem sX11_row : Cond.selects RX11 yX11_row yX11_row ∈ tblG := memT (tin_6 _ (List.mem_of_getElem? (i := 2) rfl)) rfl
abbrev mX11_feed : MI := (yX11_feed, cX11_feed, 2, (some (.int)))
theorem qX11_feed : Cal mX11_feed 1 := ⟨memT (tin_1 _ (List.mem_of_getElem? (i := 12) rfl)) rfl, memT (tin_6 _ (List.mem_of_getElem? (i := 7) rfl)) rfl, ⟨by decide +kernel, by decide +kernel⟩, by decide +kernel⟩
theorem vX11_feed : Cond.instanceMethod yX11_feed ∈ tblG := memT (tin_6 _ (List.mem_of_getElem? (i := 5) rfl)) rfl
theorem sX11_feed : Cond.selects RX11 yX11_feed yX11_feed ∈ tblG := memT (tin_6 _ (List.mem_of_getElem? (i := 6) rfl)) rfl
abbrev mX11_peek : MI := (yX11_peek, cX11_peek, 1, (some (.int)))
theorem qX11_peek : Cal mX11_peek 0 := ⟨memT (tin_1 _ (List.mem_of_getElem? (i := 12) rfl)) rfl, memT (tin_6 _ (List.mem_of_getElem? (i := 27) rfl)) rfl, ⟨by decide +kernel, by decide +kernel⟩, by decide +kernel⟩
theorem vX11_peek : Cond.instanceMethod yX11_peek ∈ tblG := memT (tin_6 _ (List.mem_of_getElem? (i := 26) rfl)) rfl
theorem sX11_peek : Cond.selects RX11 yX11_peek yX11_peek ∈ tblG := memT (List.mem_append_left _ (List.mem_of_getElem? (i := 28) rfl)) rfl
abbrev mX11_takes : MI := (yX11_takes, cX11_takes, 2, (some (.boolean)))
theorem qX11_takes : Cal mX11_takes 1 := ⟨memT (tin_1 _ (List.mem_of_getElem? (i := 12) rfl)) rfl, memT (tin_6 _ (List.mem_of_getElem? (i := 35) rfl)) rfl, ⟨by decide +kernel, by decide +kernel⟩, by decide +kernel⟩
theorem vX11_takes : Cond.instanceMethod yX11_takes ∈ tblG := memT (tin_6 _ (List.mem_of_getElem? (i := 34) rfl)) rfl
theorem sX11_takes : Cond.selects RX11 yX11_takes yX11_takes ∈ tblG := memT (List.mem_append_left _ (List.mem_of_getElem? (i := 30) rfl)) rfl
abbrev mX11_takesWord : MI := (yX11_takesWord, cX11_takesWord, 4, (some (.boolean)))
theorem qX11_takesWord : Cal mX11_takesWord 2 := ⟨memT (tin_1 _ (List.mem_of_getElem? (i := 12) rfl)) rfl, memT (tin_6 _ (List.mem_of_getElem? (i := 31) rfl)) rfl, ⟨by decide +kernel, by decide +kernel⟩, by decide +kernel⟩
theorem vX11_takesWord : Cond.instanceMethod yX11_takesWord ∈ tblG := memT (tin_6 _ (List.mem_of_getElem? (i := 30) rfl)) rfl
theorem sX11_takesWord : Cond.selects RX11 yX11_takesWord yX11_takesWord ∈ tblG := memT (List.mem_append_left _ (List.mem_of_getElem? (i := 29) rfl)) rfl
abbrev mX11_isDigit : MI := (yX11_isDigit, cX11_isDigit, 1, (some (.boolean)))
theorem qX11_isDigit : Cal mX11_isDigit 0 := ⟨memT (tin_1 _ (List.mem_of_getElem? (i := 12) rfl)) rfl, memT (tin_6 _ (List.mem_of_getElem? (i := 43) rfl)) rfl, ⟨by decide +kernel, by decide +kernel⟩, by decide +kernel⟩
theorem vX11_isDigit : Cond.instanceMethod yX11_isDigit ∈ tblG := memT (tin_6 _ (List.mem_of_getElem? (i := 42) rfl)) rfl
theorem sX11_isDigit : Cond.selects RX11 yX11_isDigit yX11_isDigit ∈ tblG := memT (List.mem_append_left _ (List.mem_of_getElem? (i := 32) rfl)) rfl
abbrev mX11_takesNumber : MI := (yX11_takesNumber, cX11_takesNumber, 2, (some (.boolean)))
theorem qX11_takesNumber : Cal mX11_takesNumber 0 := ⟨memT (tin_1 _ (List.mem_of_getElem? (i := 12) rfl)) rfl, memT (tin_6 _ (List.mem_of_getElem? (i := 39) rfl)) rfl, ⟨by decide +kernel, by decide +kernel⟩, by decide +kernel⟩
theorem vX11_takesNumber : Cond.instanceMethod yX11_takesNumber ∈ tblG := memT (tin_6 _ (List.mem_of_getElem? (i := 38) rfl)) rfl
theorem sX11_takesNumber : Cond.selects RX11 yX11_takesNumber yX11_takesNumber ∈ tblG := memT (List.mem_append_left _ (List.mem_of_getElem? (i := 31) rfl)) rfl
abbrev mX11_emits : MI := (yX11_emits, cX11_emits, 2, none)
theorem qX11_emits : Cal mX11_emits 1 := ⟨memT (tin_1 _ (List.mem_of_getElem? (i := 12) rfl)) rfl, memT (tin_6 _ (List.mem_of_getElem? (i := 59) rfl)) rfl, ⟨by decide +kernel, by decide +kernel⟩, by decide +kernel⟩
theorem vX11_emits : Cond.instanceMethod yX11_emits ∈ tblG := memT (tin_6 _ (List.mem_of_getElem? (i := 58) rfl)) rfl
theorem sX11_emits : Cond.selects RX11 yX11_emits yX11_emits ∈ tblG := memT (List.mem_append_left _ (List.mem_of_getElem? (i := 36) rfl)) rfl
abbrev mX11_whole : MI := (yX11_whole, cX11_whole, 1, none)
theorem qX11_whole : Cal mX11_whole 0 := ⟨memT (tin_1 _ (List.mem_of_getElem? (i := 12) rfl)) rfl, memT (tin_6 _ (List.mem_of_getElem? (i := 63) rfl)) rfl, ⟨by decide +kernel, by decide +kernel⟩, by decide +kernel⟩
theorem vX11_whole : Cond.instanceMethod yX11_whole ∈ tblG := memT (tin_6 _ (List.mem_of_getElem? (i := 62) rfl)) rfl
theorem sX11_whole : Cond.selects RX11 yX11_whole yX11_whole ∈ tblG := memT (List.mem_append_left _ (List.mem_of_getElem? (i := 37) rfl)) rfl
abbrev mX11_settle : MI := (yX11_settle, cX11_settle, 2, none)
theorem qX11_settle : Cal mX11_settle 1 := ⟨memT (tin_1 _ (List.mem_of_getElem? (i := 12) rfl)) rfl, memT (tin_6 _ (List.mem_of_getElem? (i := 67) rfl)) rfl, ⟨by decide +kernel, by decide +kernel⟩, by decide +kernel⟩
theorem vX11_settle : Cond.instanceMethod yX11_settle ∈ tblG := memT (tin_6 _ (List.mem_of_getElem? (i := 66) rfl)) rfl
theorem sX11_settle : Cond.selects RX11 yX11_settle yX11_settle ∈ tblG := memT (List.mem_append_left _ (List.mem_of_getElem? (i := 38) rfl)) rfl
abbrev mX11_place : MI := (yX11_place, cX11_place, 2, (some (.int)))
theorem qX11_place : Cal mX11_place 1 := ⟨memT (tin_1 _ (List.mem_of_getElem? (i := 12) rfl)) rfl, memT (tin_6 _ (List.mem_of_getElem? (i := 55) rfl)) rfl, ⟨by decide +kernel, by decide +kernel⟩, by decide +kernel⟩
theorem vX11_place : Cond.instanceMethod yX11_place ∈ tblG := memT (tin_6 _ (List.mem_of_getElem? (i := 54) rfl)) rfl
theorem sX11_place : Cond.selects RX11 yX11_place yX11_place ∈ tblG := memT (List.mem_append_left _ (List.mem_of_getElem? (i := 35) rfl)) rfl
abbrev mX11_takesTest : MI := (yX11_takesTest, cX11_takesTest, 3, (some (.boolean)))
theorem qX11_takesTest : Cal mX11_takesTest 0 := ⟨memT (tin_1 _ (List.mem_of_getElem? (i := 12) rfl)) rfl, memT (tin_6 _ (List.mem_of_getElem? (i := 51) rfl)) rfl, ⟨by decide +kernel, by decide +kernel⟩, by decide +kernel⟩
theorem vX11_takesTest : Cond.instanceMethod yX11_takesTest ∈ tblG := memT (tin_6 _ (List.mem_of_getElem? (i := 50) rfl)) rfl
theorem sX11_takesTest : Cond.selects RX11 yX11_takesTest yX11_takesTest ∈ tblG := memT (List.mem_append_left _ (List.mem_of_getElem? (i := 34) rfl)) rfl
abbrev mX11_takesE : MI := (yX11_takesE, cX11_takesE, 4, (some (.boolean)))
theorem qX11_takesE : Cal mX11_takesE 1 := ⟨memT (tin_1 _ (List.mem_of_getElem? (i := 12) rfl)) rfl, memT (tin_6 _ (List.mem_of_getElem? (i := 47) rfl)) rfl, ⟨by decide +kernel, by decide +kernel⟩, by decide +kernel⟩
theorem vX11_takesE : Cond.instanceMethod yX11_takesE ∈ tblG := memT (tin_6 _ (List.mem_of_getElem? (i := 46) rfl)) rfl
theorem sX11_takesE : Cond.selects RX11 yX11_takesE yX11_takesE ∈ tblG := memT (List.mem_append_left _ (List.mem_of_getElem? (i := 33) rfl)) rfl
abbrev mX11_takesHead : MI := (yX11_takesHead, cX11_takesHead, 2, (some (.boolean)))
theorem qX11_takesHead : Cal mX11_takesHead 1 := ⟨memT (tin_1 _ (List.mem_of_getElem? (i := 12) rfl)) rfl, memT (tin_6 _ (List.mem_of_getElem? (i := 23) rfl)) rfl, ⟨by decide +kernel, by decide +kernel⟩, by decide +kernel⟩
theorem vX11_takesHead : Cond.instanceMethod yX11_takesHead ∈ tblG := memT (tin_6 _ (List.mem_of_getElem? (i := 22) rfl)) rfl
theorem sX11_takesHead : Cond.selects RX11 yX11_takesHead yX11_takesHead ∈ tblG := memT (List.mem_append_left _ (List.mem_of_getElem? (i := 27) rfl)) rfl
abbrev mX11_takesClause : MI := (yX11_takesClause, cX11_takesClause, 2, (some (.boolean)))
theorem qX11_takesClause : Cal mX11_takesClause 1 := ⟨memT (tin_1 _ (List.mem_of_getElem? (i := 12) rfl)) rfl, memT (tin_6 _ (List.mem_of_getElem? (i := 19) rfl)) rfl, ⟨by decide +kernel, by decide +kernel⟩, by decide +kernel⟩
theorem vX11_takesClause : Cond.instanceMethod yX11_takesClause ∈ tblG := memT (tin_6 _ (List.mem_of_getElem? (i := 18) rfl)) rfl
theorem sX11_takesClause : Cond.selects RX11 yX11_takesClause yX11_takesClause ∈ tblG := memT (List.mem_append_left _ (List.mem_of_getElem? (i := 26) rfl)) rfl
abbrev mX11_goesText : MI := (yX11_goesText, cX11_goesText, 3, (some (.boolean)))
theorem qX11_goesText : Cal mX11_goesText 1 := ⟨memT (tin_1 _ (List.mem_of_getElem? (i := 12) rfl)) rfl, memT (tin_6 _ (List.mem_of_getElem? (i := 15) rfl)) rfl, ⟨by decide +kernel, by decide +kernel⟩, by decide +kernel⟩
theorem vX11_goesText : Cond.instanceMethod yX11_goesText ∈ tblG := memT (tin_6 _ (List.mem_of_getElem? (i := 14) rfl)) rfl
theorem sX11_goesText : Cond.selects RX11 yX11_goesText yX11_goesText ∈ tblG := memT (List.mem_append_left _ (List.mem_of_getElem? (i := 25) rfl)) rfl
abbrev mX11_town : MI := (yX11_town, cX11_town, 2, (some (.int)))
theorem qX11_town : Cal mX11_town 0 := ⟨memT (tin_1 _ (List.mem_of_getElem? (i := 12) rfl)) rfl, memT (tin_6 _ (List.mem_of_getElem? (i := 11) rfl)) rfl, ⟨by decide +kernel, by decide +kernel⟩, by decide +kernel⟩
theorem vX11_town : Cond.instanceMethod yX11_town ∈ tblG := memT (tin_6 _ (List.mem_of_getElem? (i := 9) rfl)) rfl
theorem sX11_town : Cond.selects RX11 yX11_town yX11_town ∈ tblG := memT (tin_6 _ (List.mem_of_getElem? (i := 10) rfl)) rfl
abbrev mX11_begin : MI := (yX11_begin, cX11_begin, 1, (some (.int)))
theorem qX11_begin : Cal mX11_begin 0 := ⟨memT (tin_1 _ (List.mem_of_getElem? (i := 12) rfl)) rfl, memT (tin_6 _ (List.mem_of_getElem? (i := 75) rfl)) rfl, ⟨by decide +kernel, by decide +kernel⟩, by decide +kernel⟩
theorem vX11_begin : Cond.instanceMethod yX11_begin ∈ tblG := memT (tin_6 _ (List.mem_of_getElem? (i := 74) rfl)) rfl
theorem sX11_begin : Cond.selects RX11 yX11_begin yX11_begin ∈ tblG := memT (List.mem_append_left _ (List.mem_of_getElem? (i := 39) rfl)) rfl
abbrev mX11_behind : MI := (yX11_behind, cX11_behind, 1, (some (.int)))
theorem qX11_behind : Cal mX11_behind 0 := ⟨memT (tin_1 _ (List.mem_of_getElem? (i := 12) rfl)) rfl, memT (tin_6 _ (List.mem_of_getElem? (i := 79) rfl)) rfl, ⟨by decide +kernel, by decide +kernel⟩, by decide +kernel⟩
theorem vX11_behind : Cond.instanceMethod yX11_behind ∈ tblG := memT (tin_6 _ (List.mem_of_getElem? (i := 78) rfl)) rfl
theorem sX11_behind : Cond.selects RX11 yX11_behind yX11_behind ∈ tblG := memT (List.mem_append_left _ (List.mem_of_getElem? (i := 40) rfl)) rfl
abbrev mX11_dawn : MI := (yX11_dawn, cX11_dawn, 3, (some (.int)))
theorem qX11_dawn : Cal mX11_dawn 0 := ⟨memT (tin_1 _ (List.mem_of_getElem? (i := 12) rfl)) rfl, memT (tin_6 _ (List.mem_of_getElem? (i := 71) rfl)) rfl, ⟨by decide +kernel, by decide +kernel⟩, by decide +kernel⟩
theorem vX11_dawn : Cond.instanceMethod yX11_dawn ∈ tblG := memT (tin_6 _ (List.mem_of_getElem? (i := 69) rfl)) rfl
theorem sX11_dawn : Cond.selects RX11 yX11_dawn yX11_dawn ∈ tblG := memT (tin_6 _ (List.mem_of_getElem? (i := 70) rfl)) rfl
abbrev mX11_factOf : MI := (yX11_factOf, cX11_factOf, 5, (some (.int)))
theorem qX11_factOf : Cal mX11_factOf 4 := ⟨memT (tin_1 _ (List.mem_of_getElem? (i := 12) rfl)) rfl, memT (tin_6 _ (List.mem_of_getElem? (i := 99) rfl)) rfl, ⟨by decide +kernel, by decide +kernel⟩, by decide +kernel⟩
theorem vX11_factOf : Cond.instanceMethod yX11_factOf ∈ tblG := memT (tin_6 _ (List.mem_of_getElem? (i := 98) rfl)) rfl
theorem sX11_factOf : Cond.selects RX11 yX11_factOf yX11_factOf ∈ tblG := memT (List.mem_append_left _ (List.mem_of_getElem? (i := 44) rfl)) rfl
abbrev mX11_holds : MI := (yX11_holds, cX11_holds, 10, (some (.boolean)))
theorem qX11_holds : Cal mX11_holds 4 := ⟨memT (tin_1 _ (List.mem_of_getElem? (i := 12) rfl)) rfl, memT (tin_6 _ (List.mem_of_getElem? (i := 95) rfl)) rfl, ⟨by decide +kernel, by decide +kernel⟩, by decide +kernel⟩
theorem vX11_holds : Cond.instanceMethod yX11_holds ∈ tblG := memT (tin_6 _ (List.mem_of_getElem? (i := 94) rfl)) rfl
theorem sX11_holds : Cond.selects RX11 yX11_holds yX11_holds ∈ tblG := memT (List.mem_append_left _ (List.mem_of_getElem? (i := 43) rfl)) rfl
abbrev mX11_sumOf : MI := (yX11_sumOf, cX11_sumOf, 9, (some (.int)))
theorem qX11_sumOf : Cal mX11_sumOf 5 := ⟨memT (tin_1 _ (List.mem_of_getElem? (i := 12) rfl)) rfl, memT (tin_6 _ (List.mem_of_getElem? (i := 91) rfl)) rfl, ⟨by decide +kernel, by decide +kernel⟩, by decide +kernel⟩
theorem vX11_sumOf : Cond.instanceMethod yX11_sumOf ∈ tblG := memT (tin_6 _ (List.mem_of_getElem? (i := 90) rfl)) rfl
theorem sX11_sumOf : Cond.selects RX11 yX11_sumOf yX11_sumOf ∈ tblG := memT (List.mem_append_left _ (List.mem_of_getElem? (i := 42) rfl)) rfl
abbrev mX11_slowOf : MI := (yX11_slowOf, cX11_slowOf, 4, (some (.int)))
theorem qX11_slowOf : Cal mX11_slowOf 3 := ⟨memT (tin_1 _ (List.mem_of_getElem? (i := 12) rfl)) rfl, memT (tin_6 _ (List.mem_of_getElem? (i := 87) rfl)) rfl, ⟨by decide +kernel, by decide +kernel⟩, by decide +kernel⟩
theorem vX11_slowOf : Cond.instanceMethod yX11_slowOf ∈ tblG := memT (tin_6 _ (List.mem_of_getElem? (i := 86) rfl)) rfl
theorem sX11_slowOf : Cond.selects RX11 yX11_slowOf yX11_slowOf ∈ tblG := memT (List.mem_append_left _ (List.mem_of_getElem? (i := 41) rfl)) rfl
abbrev mX11_farOf : MI := (yX11_farOf, cX11_farOf, 4, (some (.int)))
theorem qX11_farOf : Cal mX11_farOf 3 := ⟨memT (tin_1 _ (List.mem_of_getElem? (i := 12) rfl)) rfl, memT (tin_6 _ (List.mem_of_getElem? (i := 103) rfl)) rfl, ⟨by decide +kernel, by decide +kernel⟩, by decide +kernel⟩
theorem vX11_farOf : Cond.instanceMethod yX11_farOf ∈ tblG := memT (tin_6 _ (List.mem_of_getElem? (i := 102) rfl)) rfl
theorem sX11_farOf : Cond.selects RX11 yX11_farOf yX11_farOf ∈ tblG := memT (List.mem_append_left _ (List.mem_of_getElem? (i := 45) rfl)) rfl
abbrev mX11_of : MI := (yX11_of, cX11_of, 3, (some (.int)))
theorem qX11_of : Cal mX11_of 2 := ⟨memT (tin_1 _ (List.mem_of_getElem? (i := 12) rfl)) rfl, memT (tin_6 _ (List.mem_of_getElem? (i := 83) rfl)) rfl, ⟨by decide +kernel, by decide +kernel⟩, by decide +kernel⟩
theorem vX11_of : Cond.instanceMethod yX11_of ∈ tblG := memT (tin_6 _ (List.mem_of_getElem? (i := 81) rfl)) rfl
theorem sX11_of : Cond.selects RX11 yX11_of yX11_of ∈ tblG := memT (tin_6 _ (List.mem_of_getElem? (i := 82) rfl)) rfl
abbrev mX11_beginNight : MI := (yX11_beginNight, cX11_beginNight, 3, none)
theorem qX11_beginNight : Cal mX11_beginNight 2 := ⟨memT (tin_1 _ (List.mem_of_getElem? (i := 12) rfl)) rfl, memT (tin_6 _ (List.mem_of_getElem? (i := 115) rfl)) rfl, ⟨by decide +kernel, by decide +kernel⟩, by decide +kernel⟩
theorem vX11_beginNight : Cond.instanceMethod yX11_beginNight ∈ tblG := memT (tin_6 _ (List.mem_of_getElem? (i := 114) rfl)) rfl
theorem sX11_beginNight : Cond.selects RX11 yX11_beginNight yX11_beginNight ∈ tblG := memT (List.mem_append_left _ (List.mem_of_getElem? (i := 47) rfl)) rfl
abbrev mX11_isProudly : MI := (yX11_isProudly, cX11_isProudly, 2, (some (.boolean)))
theorem qX11_isProudly : Cal mX11_isProudly 1 := ⟨memT (tin_1 _ (List.mem_of_getElem? (i := 12) rfl)) rfl, memT (tin_6 _ (List.mem_of_getElem? (i := 140) rfl)) rfl, ⟨by decide +kernel, by decide +kernel⟩, by decide +kernel⟩
theorem vX11_isProudly : Cond.instanceMethod yX11_isProudly ∈ tblG := memT (tin_6 _ (List.mem_of_getElem? (i := 139) rfl)) rfl
theorem sX11_isProudly : Cond.selects RX11 yX11_isProudly yX11_isProudly ∈ tblG := memT (List.mem_append_left _ (List.mem_of_getElem? (i := 53) rfl)) rfl
abbrev mX11_letsIn : MI := (yX11_letsIn, cX11_letsIn, 2, (some (.boolean)))
theorem qX11_letsIn : Cal mX11_letsIn 1 := ⟨memT (tin_1 _ (List.mem_of_getElem? (i := 12) rfl)) rfl, memT (tin_6 _ (List.mem_of_getElem? (i := 136) rfl)) rfl, ⟨by decide +kernel, by decide +kernel⟩, by decide +kernel⟩
theorem vX11_letsIn : Cond.instanceMethod yX11_letsIn ∈ tblG := memT (tin_6 _ (List.mem_of_getElem? (i := 135) rfl)) rfl
theorem sX11_letsIn : Cond.selects RX11 yX11_letsIn yX11_letsIn ∈ tblG := memT (List.mem_append_left _ (List.mem_of_getElem? (i := 52) rfl)) rfl
abbrev mX11_pays : MI := (yX11_pays, cX11_pays, 2, (some (.boolean)))
theorem qX11_pays : Cal mX11_pays 1 := ⟨memT (tin_1 _ (List.mem_of_getElem? (i := 12) rfl)) rfl, memT (tin_6 _ (List.mem_of_getElem? (i := 148) rfl)) rfl, ⟨by decide +kernel, by decide +kernel⟩, by decide +kernel⟩
theorem vX11_pays : Cond.instanceMethod yX11_pays ∈ tblG := memT (tin_6 _ (List.mem_of_getElem? (i := 147) rfl)) rfl
theorem sX11_pays : Cond.selects RX11 yX11_pays yX11_pays ∈ tblG := memT (List.mem_append_left _ (List.mem_of_getElem? (i := 55) rfl)) rfl
abbrev mX11_apart : MI := (yX11_apart, cX11_apart, 3, (some (.int)))
theorem qX11_apart : Cal mX11_apart 2 := ⟨memT (tin_1 _ (List.mem_of_getElem? (i := 12) rfl)) rfl, memT (tin_6 _ (List.mem_of_getElem? (i := 123) rfl)) rfl, ⟨by decide +kernel, by decide +kernel⟩, by decide +kernel⟩
theorem vX11_apart : Cond.instanceMethod yX11_apart ∈ tblG := memT (tin_6 _ (List.mem_of_getElem? (i := 122) rfl)) rfl
theorem sX11_apart : Cond.selects RX11 yX11_apart yX11_apart ∈ tblG := memT (List.mem_append_left _ (List.mem_of_getElem? (i := 49) rfl)) rfl
abbrev mX11_upBy : MI := (yX11_upBy, cX11_upBy, 3, (some (.int)))
theorem qX11_upBy : Cal mX11_upBy 2 := ⟨memT (tin_1 _ (List.mem_of_getElem? (i := 12) rfl)) rfl, memT (tin_6 _ (List.mem_of_getElem? (i := 131) rfl)) rfl, ⟨by decide +kernel, by decide +kernel⟩, by decide +kernel⟩
theorem vX11_upBy : Cond.instanceMethod yX11_upBy ∈ tblG := memT (tin_6 _ (List.mem_of_getElem? (i := 130) rfl)) rfl
theorem sX11_upBy : Cond.selects RX11 yX11_upBy yX11_upBy ∈ tblG := memT (List.mem_append_left _ (List.mem_of_getElem? (i := 51) rfl)) rfl
abbrev mX11_visits : MI := (yX11_visits, cX11_visits, 4, (some (.boolean)))
theorem qX11_visits : Cal mX11_visits 1 := ⟨memT (tin_1 _ (List.mem_of_getElem? (i := 12) rfl)) rfl, memT (tin_6 _ (List.mem_of_getElem? (i := 119) rfl)) rfl, ⟨by decide +kernel, by decide +kernel⟩, by decide +kernel⟩
theorem vX11_visits : Cond.instanceMethod yX11_visits ∈ tblG := memT (tin_6 _ (List.mem_of_getElem? (i := 118) rfl)) rfl
theorem sX11_visits : Cond.selects RX11 yX11_visits yX11_visits ∈ tblG := memT (List.mem_append_left _ (List.mem_of_getElem? (i := 48) rfl)) rfl
abbrev mX11_comesIn : MI := (yX11_comesIn, cX11_comesIn, 4, (some (.boolean)))
theorem qX11_comesIn : Cal mX11_comesIn 3 := ⟨memT (tin_1 _ (List.mem_of_getElem? (i := 12) rfl)) rfl, memT (tin_6 _ (List.mem_of_getElem? (i := 111) rfl)) rfl, ⟨by decide +kernel, by decide +kernel⟩, by decide +kernel⟩
theorem vX11_comesIn : Cond.instanceMethod yX11_comesIn ∈ tblG := memT (tin_6 _ (List.mem_of_getElem? (i := 110) rfl)) rfl
theorem sX11_comesIn : Cond.selects RX11 yX11_comesIn yX11_comesIn ∈ tblG := memT (List.mem_append_left _ (List.mem_of_getElem? (i := 46) rfl)) rfl
abbrev mX11_visit : MI := (yX11_visit, cX11_visit, 5, (some (.int)))
theorem qX11_visit : Cal mX11_visit 3 := ⟨memT (tin_1 _ (List.mem_of_getElem? (i := 12) rfl)) rfl, memT (tin_6 _ (List.mem_of_getElem? (i := 107) rfl)) rfl, ⟨by decide +kernel, by decide +kernel⟩, by decide +kernel⟩
theorem vX11_visit : Cond.instanceMethod yX11_visit ∈ tblG := memT (tin_6 _ (List.mem_of_getElem? (i := 105) rfl)) rfl
theorem sX11_visit : Cond.selects RX11 yX11_visit yX11_visit ∈ tblG := memT (tin_6 _ (List.mem_of_getElem? (i := 106) rfl)) rfl
abbrev mX11_way : MI := (yX11_way, cX11_way, 2, (some (.int)))
theorem qX11_way : Cal mX11_way 1 := ⟨memT (tin_1 _ (List.mem_of_getElem? (i := 12) rfl)) rfl, memT (tin_6 _ (List.mem_of_getElem? (i := 152) rfl)) rfl, ⟨by decide +kernel, by decide +kernel⟩, by decide +kernel⟩
theorem vX11_way : Cond.instanceMethod yX11_way ∈ tblG := memT (tin_6 _ (List.mem_of_getElem? (i := 150) rfl)) rfl
theorem sX11_way : Cond.selects RX11 yX11_way yX11_way ∈ tblG := memT (tin_6 _ (List.mem_of_getElem? (i := 151) rfl)) rfl
abbrev mX11_goes : MI := (yX11_goes, cX11_goes, 6, (some (.int)))
theorem qX11_goes : Cal mX11_goes 2 := ⟨memT (tin_1 _ (List.mem_of_getElem? (i := 12) rfl)) rfl, memT (tin_6 _ (List.mem_of_getElem? (i := 156) rfl)) rfl, ⟨by decide +kernel, by decide +kernel⟩, by decide +kernel⟩
theorem vX11_goes : Cond.instanceMethod yX11_goes ∈ tblG := memT (tin_6 _ (List.mem_of_getElem? (i := 154) rfl)) rfl
theorem sX11_goes : Cond.selects RX11 yX11_goes yX11_goes ∈ tblG := memT (tin_6 _ (List.mem_of_getElem? (i := 155) rfl)) rfl
abbrev mX11_layOrder : MI := (yX11_layOrder, cX11_layOrder, 10, (some (.boolean)))
theorem qX11_layOrder : Cal mX11_layOrder 2 := ⟨memT (tin_1 _ (List.mem_of_getElem? (i := 12) rfl)) rfl, memT (tin_6 _ (List.mem_of_getElem? (i := 164) rfl)) rfl, ⟨by decide +kernel, by decide +kernel⟩, by decide +kernel⟩
theorem vX11_layOrder : Cond.instanceMethod yX11_layOrder ∈ tblG := memT (tin_6 _ (List.mem_of_getElem? (i := 163) rfl)) rfl
theorem sX11_layOrder : Cond.selects RX11 yX11_layOrder yX11_layOrder ∈ tblG := memT (List.mem_append_left _ (List.mem_of_getElem? (i := 56) rfl)) rfl
abbrev mX11_round : MI := (yX11_round, cX11_round, 10, (some (.int)))
theorem qX11_round : Cal mX11_round 3 := ⟨memT (tin_1 _ (List.mem_of_getElem? (i := 12) rfl)) rfl, memT (tin_6 _ (List.mem_of_getElem? (i := 160) rfl)) rfl, ⟨by decide +kernel, by decide +kernel⟩, by decide +kernel⟩
theorem vX11_round : Cond.instanceMethod yX11_round ∈ tblG := memT (tin_6 _ (List.mem_of_getElem? (i := 158) rfl)) rfl
theorem sX11_round : Cond.selects RX11 yX11_round yX11_round ∈ tblG := memT (tin_6 _ (List.mem_of_getElem? (i := 159) rfl)) rfl
abbrev mX11_keep : MI := (yX11_keep, cX11_keep, 6, (some (.int)))
theorem qX11_keep : Cal mX11_keep 2 := ⟨memT (tin_1 _ (List.mem_of_getElem? (i := 12) rfl)) rfl, memT (tin_6 _ (List.mem_of_getElem? (i := 168) rfl)) rfl, ⟨by decide +kernel, by decide +kernel⟩, by decide +kernel⟩
theorem vX11_keep : Cond.instanceMethod yX11_keep ∈ tblG := memT (tin_6 _ (List.mem_of_getElem? (i := 166) rfl)) rfl
theorem sX11_keep : Cond.selects RX11 yX11_keep yX11_keep ∈ tblG := memT (tin_6 _ (List.mem_of_getElem? (i := 167) rfl)) rfl
abbrev mX11_pairsIn : MI := (yX11_pairsIn, cX11_pairsIn, 4, (some (.int)))
theorem qX11_pairsIn : Cal mX11_pairsIn 0 := ⟨memT (tin_1 _ (List.mem_of_getElem? (i := 12) rfl)) rfl, memT (tin_6 _ (List.mem_of_getElem? (i := 176) rfl)) rfl, ⟨by decide +kernel, by decide +kernel⟩, by decide +kernel⟩
theorem vX11_pairsIn : Cond.instanceMethod yX11_pairsIn ∈ tblG := memT (tin_6 _ (List.mem_of_getElem? (i := 175) rfl)) rfl
theorem sX11_pairsIn : Cond.selects RX11 yX11_pairsIn yX11_pairsIn ∈ tblG := memT (List.mem_append_left _ (List.mem_of_getElem? (i := 57) rfl)) rfl
abbrev mX11_more : MI := (yX11_more, cX11_more, 8, (some (.int)))
theorem qX11_more : Cal mX11_more 2 := ⟨memT (tin_1 _ (List.mem_of_getElem? (i := 12) rfl)) rfl, memT (tin_6 _ (List.mem_of_getElem? (i := 172) rfl)) rfl, ⟨by decide +kernel, by decide +kernel⟩, by decide +kernel⟩
theorem vX11_more : Cond.instanceMethod yX11_more ∈ tblG := memT (tin_6 _ (List.mem_of_getElem? (i := 170) rfl)) rfl
theorem sX11_more : Cond.selects RX11 yX11_more yX11_more ∈ tblG := memT (tin_6 _ (List.mem_of_getElem? (i := 171) rfl)) rfl
abbrev mX11_walksTo : MI := (yX11_walksTo, cX11_walksTo, 3, (some (.int)))
theorem qX11_walksTo : Cal mX11_walksTo 2 := ⟨memT (tin_1 _ (List.mem_of_getElem? (i := 12) rfl)) rfl, memT (tin_6 _ (List.mem_of_getElem? (i := 184) rfl)) rfl, ⟨by decide +kernel, by decide +kernel⟩, by decide +kernel⟩
theorem vX11_walksTo : Cond.instanceMethod yX11_walksTo ∈ tblG := memT (tin_6 _ (List.mem_of_getElem? (i := 183) rfl)) rfl
theorem sX11_walksTo : Cond.selects RX11 yX11_walksTo yX11_walksTo ∈ tblG := memT (List.mem_append_left _ (List.mem_of_getElem? (i := 58) rfl)) rfl
abbrev mX11_isLetIn : MI := (yX11_isLetIn, cX11_isLetIn, 4, (some (.boolean)))
theorem qX11_isLetIn : Cal mX11_isLetIn 3 := ⟨memT (tin_1 _ (List.mem_of_getElem? (i := 12) rfl)) rfl, memT (tin_6 _ (List.mem_of_getElem? (i := 188) rfl)) rfl, ⟨by decide +kernel, by decide +kernel⟩, by decide +kernel⟩
theorem vX11_isLetIn : Cond.instanceMethod yX11_isLetIn ∈ tblG := memT (tin_6 _ (List.mem_of_getElem? (i := 187) rfl)) rfl
theorem sX11_isLetIn : Cond.selects RX11 yX11_isLetIn yX11_isLetIn ∈ tblG := memT (List.mem_append_left _ (List.mem_of_getElem? (i := 59) rfl)) rfl
abbrev mX11_share : MI := (yX11_share, cX11_share, 9, (some (.int)))
theorem qX11_share : Cal mX11_share 4 := ⟨memT (tin_1 _ (List.mem_of_getElem? (i := 12) rfl)) rfl, memT (tin_6 _ (List.mem_of_getElem? (i := 180) rfl)) rfl, ⟨by decide +kernel, by decide +kernel⟩, by decide +kernel⟩
theorem vX11_share : Cond.instanceMethod yX11_share ∈ tblG := memT (tin_6 _ (List.mem_of_getElem? (i := 178) rfl)) rfl
theorem sX11_share : Cond.selects RX11 yX11_share yX11_share ∈ tblG := memT (tin_6 _ (List.mem_of_getElem? (i := 179) rfl)) rfl
abbrev mX11_watch : MI := (yX11_watch, cX11_watch, 3, (some (.int)))
theorem qX11_watch : Cal mX11_watch 2 := ⟨memT (tin_1 _ (List.mem_of_getElem? (i := 12) rfl)) rfl, memT (tin_6 _ (List.mem_of_getElem? (i := 192) rfl)) rfl, ⟨by decide +kernel, by decide +kernel⟩, by decide +kernel⟩
theorem vX11_watch : Cond.instanceMethod yX11_watch ∈ tblG := memT (tin_6 _ (List.mem_of_getElem? (i := 190) rfl)) rfl
theorem sX11_watch : Cond.selects RX11 yX11_watch yX11_watch ∈ tblG := memT (tin_6 _ (List.mem_of_getElem? (i := 191) rfl)) rfl
abbrev mX11_suspects : MI := (yX11_suspects, cX11_suspects, 5, (some (.int)))
theorem qX11_suspects : Cal mX11_suspects 0 := ⟨memT (tin_1 _ (List.mem_of_getElem? (i := 12) rfl)) rfl, memT (tin_6 _ (List.mem_of_getElem? (i := 196) rfl)) rfl, ⟨by decide +kernel, by decide +kernel⟩, by decide +kernel⟩
theorem vX11_suspects : Cond.instanceMethod yX11_suspects ∈ tblG := memT (tin_6 _ (List.mem_of_getElem? (i := 194) rfl)) rfl
theorem sX11_suspects : Cond.selects RX11 yX11_suspects yX11_suspects ∈ tblG := memT (tin_6 _ (List.mem_of_getElem? (i := 195) rfl)) rfl
abbrev mX11_next : MI := (yX11_next, cX11_next, 7, (some (.int)))
theorem qX11_next : Cal mX11_next 0 := ⟨memT (tin_1 _ (List.mem_of_getElem? (i := 12) rfl)) rfl, memT (tin_6 _ (List.mem_of_getElem? (i := 200) rfl)) rfl, ⟨by decide +kernel, by decide +kernel⟩, by decide +kernel⟩
theorem vX11_next : Cond.instanceMethod yX11_next ∈ tblG := memT (tin_6 _ (List.mem_of_getElem? (i := 198) rfl)) rfl
theorem sX11_next : Cond.selects RX11 yX11_next yX11_next ∈ tblG := memT (tin_6 _ (List.mem_of_getElem? (i := 199) rfl)) rfl
abbrev mX11_when : MI := (yX11_when, cX11_when, 4, (some (.int)))
theorem qX11_when : Cal mX11_when 2 := ⟨memT (tin_1 _ (List.mem_of_getElem? (i := 12) rfl)) rfl, memT (tin_6 _ (List.mem_of_getElem? (i := 205) rfl)) rfl, ⟨by decide +kernel, by decide +kernel⟩, by decide +kernel⟩
theorem vX11_when : Cond.instanceMethod yX11_when ∈ tblG := memT (tin_6 _ (List.mem_of_getElem? (i := 203) rfl)) rfl
theorem sX11_when : Cond.selects RX11 yX11_when yX11_when ∈ tblG := memT (tin_6 _ (List.mem_of_getElem? (i := 204) rfl)) rfl
abbrev mX11_divisor : MI := (yX11_divisor, cX11_divisor, 6, (some (.int)))
theorem qX11_divisor : Cal mX11_divisor 2 := ⟨memT (tin_1 _ (List.mem_of_getElem? (i := 12) rfl)) rfl, memT (tin_6 _ (List.mem_of_getElem? (i := 218) rfl)) rfl, ⟨by decide +kernel, by decide +kernel⟩, by decide +kernel⟩
theorem vX11_divisor : Cond.instanceMethod yX11_divisor ∈ tblG := memT (tin_6 _ (List.mem_of_getElem? (i := 217) rfl)) rfl
theorem sX11_divisor : Cond.selects RX11 yX11_divisor yX11_divisor ∈ tblG := memT (List.mem_append_left _ (List.mem_of_getElem? (i := 61) rfl)) rfl
abbrev mX11_lowest : MI := (yX11_lowest, cX11_lowest, 5, (some (.long)))
theorem qX11_lowest : Cal mX11_lowest 3 := ⟨memT (tin_1 _ (List.mem_of_getElem? (i := 12) rfl)) rfl, memT (tin_6 _ (List.mem_of_getElem? (i := 214) rfl)) rfl, ⟨by decide +kernel, by decide +kernel⟩, by decide +kernel⟩
theorem vX11_lowest : Cond.instanceMethod yX11_lowest ∈ tblG := memT (tin_6 _ (List.mem_of_getElem? (i := 213) rfl)) rfl
theorem sX11_lowest : Cond.selects RX11 yX11_lowest yX11_lowest ∈ tblG := memT (List.mem_append_left _ (List.mem_of_getElem? (i := 60) rfl)) rfl
abbrev mX11_odds : MI := (yX11_odds, cX11_odds, 6, (some (.long)))
theorem qX11_odds : Cal mX11_odds 3 := ⟨memT (tin_1 _ (List.mem_of_getElem? (i := 12) rfl)) rfl, memT (tin_6 _ (List.mem_of_getElem? (i := 209) rfl)) rfl, ⟨by decide +kernel, by decide +kernel⟩, by decide +kernel⟩
theorem vX11_odds : Cond.instanceMethod yX11_odds ∈ tblG := memT (tin_6 _ (List.mem_of_getElem? (i := 207) rfl)) rfl
theorem sX11_odds : Cond.selects RX11 yX11_odds yX11_odds ∈ tblG := memT (tin_6 _ (List.mem_of_getElem? (i := 208) rfl)) rfl
abbrev mX11_mean : MI := (yX11_mean, cX11_mean, 6, (some (.long)))
theorem qX11_mean : Cal mX11_mean 2 := ⟨memT (tin_1 _ (List.mem_of_getElem? (i := 12) rfl)) rfl, memT (tin_6 _ (List.mem_of_getElem? (i := 222) rfl)) rfl, ⟨by decide +kernel, by decide +kernel⟩, by decide +kernel⟩
theorem vX11_mean : Cond.instanceMethod yX11_mean ∈ tblG := memT (tin_6 _ (List.mem_of_getElem? (i := 220) rfl)) rfl
theorem sX11_mean : Cond.selects RX11 yX11_mean yX11_mean ∈ tblG := memT (tin_6 _ (List.mem_of_getElem? (i := 221) rfl)) rfl
abbrev mX11_book : MI := (yX11_book, cX11_book, 3, (some (.int)))
theorem qX11_book : Cal mX11_book 2 := ⟨memT (tin_1 _ (List.mem_of_getElem? (i := 12) rfl)) rfl, memT (tin_6 _ (List.mem_of_getElem? (i := 226) rfl)) rfl, ⟨by decide +kernel, by decide +kernel⟩, by decide +kernel⟩
theorem vX11_book : Cond.instanceMethod yX11_book ∈ tblG := memT (tin_6 _ (List.mem_of_getElem? (i := 224) rfl)) rfl
theorem sX11_book : Cond.selects RX11 yX11_book yX11_book ∈ tblG := memT (tin_6 _ (List.mem_of_getElem? (i := 225) rfl)) rfl
abbrev mX11_looked : MI := (yX11_looked, cX11_looked, 2, (some (.int)))
theorem qX11_looked : Cal mX11_looked 0 := ⟨memT (tin_1 _ (List.mem_of_getElem? (i := 12) rfl)) rfl, memT (tin_6 _ (List.mem_of_getElem? (i := 230) rfl)) rfl, ⟨by decide +kernel, by decide +kernel⟩, by decide +kernel⟩
theorem vX11_looked : Cond.instanceMethod yX11_looked ∈ tblG := memT (tin_6 _ (List.mem_of_getElem? (i := 228) rfl)) rfl
theorem sX11_looked : Cond.selects RX11 yX11_looked yX11_looked ∈ tblG := memT (tin_6 _ (List.mem_of_getElem? (i := 229) rfl)) rfl
abbrev mX11_judge : MI := (yX11_judge, cX11_judge, 4, (some (.int)))
theorem qX11_judge : Cal mX11_judge 2 := ⟨memT (tin_1 _ (List.mem_of_getElem? (i := 12) rfl)) rfl, memT (tin_6 _ (List.mem_of_getElem? (i := 234) rfl)) rfl, ⟨by decide +kernel, by decide +kernel⟩, by decide +kernel⟩
theorem vX11_judge : Cond.instanceMethod yX11_judge ∈ tblG := memT (tin_6 _ (List.mem_of_getElem? (i := 232) rfl)) rfl
theorem sX11_judge : Cond.selects RX11 yX11_judge yX11_judge ∈ tblG := memT (tin_6 _ (List.mem_of_getElem? (i := 233) rfl)) rfl
abbrev mX11_image : MI := (yX11_image, cX11_image, 2, (some (.int)))
theorem qX11_image : Cal mX11_image 0 := ⟨memT (tin_1 _ (List.mem_of_getElem? (i := 12) rfl)) rfl, memT (tin_7 _ (List.mem_of_getElem? (i := 2) rfl)) rfl, ⟨by decide +kernel, by decide +kernel⟩, by decide +kernel⟩
theorem vX11_image : Cond.instanceMethod yX11_image ∈ tblG := memT (tin_7 _ (List.mem_of_getElem? (i := 0) rfl)) rfl
theorem sX11_image : Cond.selects RX11 yX11_image yX11_image ∈ tblG := memT (tin_7 _ (List.mem_of_getElem? (i := 1) rfl)) rfl
abbrev mX11_undo : MI := (yX11_undo, cX11_undo, 2, (some (.int)))
theorem qX11_undo : Cal mX11_undo 0 := ⟨memT (tin_1 _ (List.mem_of_getElem? (i := 12) rfl)) rfl, memT (tin_7 _ (List.mem_of_getElem? (i := 6) rfl)) rfl, ⟨by decide +kernel, by decide +kernel⟩, by decide +kernel⟩
theorem vX11_undo : Cond.instanceMethod yX11_undo ∈ tblG := memT (tin_7 _ (List.mem_of_getElem? (i := 4) rfl)) rfl
theorem sX11_undo : Cond.selects RX11 yX11_undo yX11_undo ∈ tblG := memT (tin_7 _ (List.mem_of_getElem? (i := 5) rfl)) rfl
abbrev mX11_body : MI := (yX11_body, cX11_body, 2, none)
theorem qX11_body : Cal mX11_body 1 := ⟨memT (tin_1 _ (List.mem_of_getElem? (i := 12) rfl)) rfl, memT (tin_7 _ (List.mem_of_getElem? (i := 18) rfl)) rfl, ⟨by decide +kernel, by decide +kernel⟩, by decide +kernel⟩
theorem vX11_body : Cond.instanceMethod yX11_body ∈ tblG := memT (tin_7 _ (List.mem_of_getElem? (i := 17) rfl)) rfl
theorem sX11_body : Cond.selects RX11 yX11_body yX11_body ∈ tblG := memT (List.mem_append_left _ (List.mem_of_getElem? (i := 64) rfl)) rfl
abbrev mX11_houseAsks : MI := (yX11_houseAsks, cX11_houseAsks, 3, (some (.int)))
theorem qX11_houseAsks : Cal mX11_houseAsks 2 := ⟨memT (tin_1 _ (List.mem_of_getElem? (i := 12) rfl)) rfl, memT (tin_7 _ (List.mem_of_getElem? (i := 22) rfl)) rfl, ⟨by decide +kernel, by decide +kernel⟩, by decide +kernel⟩
theorem vX11_houseAsks : Cond.instanceMethod yX11_houseAsks ∈ tblG := memT (tin_7 _ (List.mem_of_getElem? (i := 21) rfl)) rfl
theorem sX11_houseAsks : Cond.selects RX11 yX11_houseAsks yX11_houseAsks ∈ tblG := memT (List.mem_append_left _ (List.mem_of_getElem? (i := 65) rfl)) rfl
abbrev mX11_asksAct : MI := (yX11_asksAct, cX11_asksAct, 3, (some (.int)))
theorem qX11_asksAct : Cal mX11_asksAct 2 := ⟨memT (tin_1 _ (List.mem_of_getElem? (i := 12) rfl)) rfl, memT (tin_7 _ (List.mem_of_getElem? (i := 14) rfl)) rfl, ⟨by decide +kernel, by decide +kernel⟩, by decide +kernel⟩
theorem vX11_asksAct : Cond.instanceMethod yX11_asksAct ∈ tblG := memT (tin_7 _ (List.mem_of_getElem? (i := 13) rfl)) rfl
theorem sX11_asksAct : Cond.selects RX11 yX11_asksAct yX11_asksAct ∈ tblG := memT (List.mem_append_left _ (List.mem_of_getElem? (i := 63) rfl)) rfl
abbrev mX11_houseOpens : MI := (yX11_houseOpens, cX11_houseOpens, 3, (some (.int)))
theorem qX11_houseOpens : Cal mX11_houseOpens 2 := ⟨memT (tin_1 _ (List.mem_of_getElem? (i := 12) rfl)) rfl, memT (tin_7 _ (List.mem_of_getElem? (i := 34) rfl)) rfl, ⟨by decide +kernel, by decide +kernel⟩, by decide +kernel⟩
theorem vX11_houseOpens : Cond.instanceMethod yX11_houseOpens ∈ tblG := memT (tin_7 _ (List.mem_of_getElem? (i := 33) rfl)) rfl
theorem sX11_houseOpens : Cond.selects RX11 yX11_houseOpens yX11_houseOpens ∈ tblG := memT (List.mem_append_left _ (List.mem_of_getElem? (i := 68) rfl)) rfl
abbrev mX11_lonelyOpens : MI := (yX11_lonelyOpens, cX11_lonelyOpens, 3, (some (.int)))
theorem qX11_lonelyOpens : Cal mX11_lonelyOpens 2 := ⟨memT (tin_1 _ (List.mem_of_getElem? (i := 12) rfl)) rfl, memT (tin_7 _ (List.mem_of_getElem? (i := 30) rfl)) rfl, ⟨by decide +kernel, by decide +kernel⟩, by decide +kernel⟩
theorem vX11_lonelyOpens : Cond.instanceMethod yX11_lonelyOpens ∈ tblG := memT (tin_7 _ (List.mem_of_getElem? (i := 29) rfl)) rfl
theorem sX11_lonelyOpens : Cond.selects RX11 yX11_lonelyOpens yX11_lonelyOpens ∈ tblG := memT (List.mem_append_left _ (List.mem_of_getElem? (i := 67) rfl)) rfl
abbrev mX11_opensAct : MI := (yX11_opensAct, cX11_opensAct, 4, (some (.int)))
theorem qX11_opensAct : Cal mX11_opensAct 2 := ⟨memT (tin_1 _ (List.mem_of_getElem? (i := 12) rfl)) rfl, memT (tin_7 _ (List.mem_of_getElem? (i := 26) rfl)) rfl, ⟨by decide +kernel, by decide +kernel⟩, by decide +kernel⟩
theorem vX11_opensAct : Cond.instanceMethod yX11_opensAct ∈ tblG := memT (tin_7 _ (List.mem_of_getElem? (i := 25) rfl)) rfl
theorem sX11_opensAct : Cond.selects RX11 yX11_opensAct yX11_opensAct ∈ tblG := memT (List.mem_append_left _ (List.mem_of_getElem? (i := 66) rfl)) rfl
abbrev mX11_houseTells : MI := (yX11_houseTells, cX11_houseTells, 3, (some (.int)))
theorem qX11_houseTells : Cal mX11_houseTells 2 := ⟨memT (tin_1 _ (List.mem_of_getElem? (i := 12) rfl)) rfl, memT (tin_7 _ (List.mem_of_getElem? (i := 42) rfl)) rfl, ⟨by decide +kernel, by decide +kernel⟩, by decide +kernel⟩
theorem vX11_houseTells : Cond.instanceMethod yX11_houseTells ∈ tblG := memT (tin_7 _ (List.mem_of_getElem? (i := 41) rfl)) rfl
theorem sX11_houseTells : Cond.selects RX11 yX11_houseTells yX11_houseTells ∈ tblG := memT (List.mem_append_left _ (List.mem_of_getElem? (i := 70) rfl)) rfl
abbrev mX11_tellsAct : MI := (yX11_tellsAct, cX11_tellsAct, 4, (some (.int)))
theorem qX11_tellsAct : Cal mX11_tellsAct 2 := ⟨memT (tin_1 _ (List.mem_of_getElem? (i := 12) rfl)) rfl, memT (tin_7 _ (List.mem_of_getElem? (i := 38) rfl)) rfl, ⟨by decide +kernel, by decide +kernel⟩, by decide +kernel⟩
theorem vX11_tellsAct : Cond.instanceMethod yX11_tellsAct ∈ tblG := memT (tin_7 _ (List.mem_of_getElem? (i := 37) rfl)) rfl
theorem sX11_tellsAct : Cond.selects RX11 yX11_tellsAct yX11_tellsAct ∈ tblG := memT (List.mem_append_left _ (List.mem_of_getElem? (i := 69) rfl)) rfl
abbrev mX11_act : MI := (yX11_act, cX11_act, 4, (some (.int)))
theorem qX11_act : Cal mX11_act 3 := ⟨memT (tin_1 _ (List.mem_of_getElem? (i := 12) rfl)) rfl, memT (tin_7 _ (List.mem_of_getElem? (i := 10) rfl)) rfl, ⟨by decide +kernel, by decide +kernel⟩, by decide +kernel⟩
theorem vX11_act : Cond.instanceMethod yX11_act ∈ tblG := memT (tin_7 _ (List.mem_of_getElem? (i := 8) rfl)) rfl
theorem sX11_act : Cond.selects RX11 yX11_act yX11_act ∈ tblG := memT (tin_7 _ (List.mem_of_getElem? (i := 9) rfl)) rfl
abbrev mX11_trace : MI := (yX11_trace, cX11_trace, 2, (some (.int)))
theorem qX11_trace : Cal mX11_trace 1 := ⟨memT (tin_1 _ (List.mem_of_getElem? (i := 12) rfl)) rfl, memT (tin_7 _ (List.mem_of_getElem? (i := 46) rfl)) rfl, ⟨by decide +kernel, by decide +kernel⟩, by decide +kernel⟩
theorem vX11_trace : Cond.instanceMethod yX11_trace ∈ tblG := memT (tin_7 _ (List.mem_of_getElem? (i := 44) rfl)) rfl
theorem sX11_trace : Cond.selects RX11 yX11_trace yX11_trace ∈ tblG := memT (tin_7 _ (List.mem_of_getElem? (i := 45) rfl)) rfl
abbrev mX11_taken : MI := (yX11_taken, cX11_taken, 4, (some (.int)))
theorem qX11_taken : Cal mX11_taken 2 := ⟨memT (tin_1 _ (List.mem_of_getElem? (i := 12) rfl)) rfl, memT (tin_7 _ (List.mem_of_getElem? (i := 50) rfl)) rfl, ⟨by decide +kernel, by decide +kernel⟩, by decide +kernel⟩
theorem vX11_taken : Cond.instanceMethod yX11_taken ∈ tblG := memT (tin_7 _ (List.mem_of_getElem? (i := 48) rfl)) rfl
theorem sX11_taken : Cond.selects RX11 yX11_taken yX11_taken ∈ tblG := memT (tin_7 _ (List.mem_of_getElem? (i := 49) rfl)) rfl
abbrev mX11_count : MI := (yX11_count, cX11_count, 2, (some (.int)))
theorem qX11_count : Cal mX11_count 1 := ⟨memT (tin_1 _ (List.mem_of_getElem? (i := 12) rfl)) rfl, memT (tin_7 _ (List.mem_of_getElem? (i := 54) rfl)) rfl, ⟨by decide +kernel, by decide +kernel⟩, by decide +kernel⟩
theorem vX11_count : Cond.instanceMethod yX11_count ∈ tblG := memT (tin_7 _ (List.mem_of_getElem? (i := 52) rfl)) rfl
theorem sX11_count : Cond.selects RX11 yX11_count yX11_count ∈ tblG := memT (tin_7 _ (List.mem_of_getElem? (i := 53) rfl)) rfl
abbrev mX11_isTape : MI := (yX11_isTape, cX11_isTape, 2, (some (.boolean)))
theorem qX11_isTape : Cal mX11_isTape 1 := ⟨memT (tin_1 _ (List.mem_of_getElem? (i := 12) rfl)) rfl, memT (tin_6 _ (List.mem_of_getElem? (i := 238) rfl)) rfl, ⟨by decide +kernel, by decide +kernel⟩, by decide +kernel⟩
theorem vX11_isTape : Cond.instanceMethod yX11_isTape ∈ tblG := memT (tin_6 _ (List.mem_of_getElem? (i := 237) rfl)) rfl
theorem sX11_isTape : Cond.selects RX11 yX11_isTape yX11_isTape ∈ tblG := memT (List.mem_append_left _ (List.mem_of_getElem? (i := 62) rfl)) rfl
abbrev mX11_tape : MI := (yX11_tape, cX11_tape, 5, (some (.int)))
theorem qX11_tape : Cal mX11_tape 3 := ⟨memT (tin_1 _ (List.mem_of_getElem? (i := 12) rfl)) rfl, memT (tin_7 _ (List.mem_of_getElem? (i := 58) rfl)) rfl, ⟨by decide +kernel, by decide +kernel⟩, by decide +kernel⟩
theorem vX11_tape : Cond.instanceMethod yX11_tape ∈ tblG := memT (tin_7 _ (List.mem_of_getElem? (i := 56) rfl)) rfl
theorem sX11_tape : Cond.selects RX11 yX11_tape yX11_tape ∈ tblG := memT (tin_7 _ (List.mem_of_getElem? (i := 57) rfl)) rfl
abbrev mX11_narrow : MI := (yX11_narrow, cX11_narrow, 4, (some (.long)))
theorem qX11_narrow : Cal mX11_narrow 2 := ⟨memT (tin_1 _ (List.mem_of_getElem? (i := 12) rfl)) rfl, memT (tin_7 _ (List.mem_of_getElem? (i := 66) rfl)) rfl, ⟨by decide +kernel, by decide +kernel⟩, by decide +kernel⟩
theorem vX11_narrow : Cond.instanceMethod yX11_narrow ∈ tblG := memT (tin_7 _ (List.mem_of_getElem? (i := 65) rfl)) rfl
theorem sX11_narrow : Cond.selects RX11 yX11_narrow yX11_narrow ∈ tblG := memT (List.mem_append_left _ (List.mem_of_getElem? (i := 71) rfl)) rfl
abbrev mX11_item : MI := (yX11_item, cX11_item, 5, (some (.int)))
theorem qX11_item : Cal mX11_item 3 := ⟨memT (tin_1 _ (List.mem_of_getElem? (i := 12) rfl)) rfl, memT (tin_7 _ (List.mem_of_getElem? (i := 62) rfl)) rfl, ⟨by decide +kernel, by decide +kernel⟩, by decide +kernel⟩
theorem vX11_item : Cond.instanceMethod yX11_item ∈ tblG := memT (tin_7 _ (List.mem_of_getElem? (i := 60) rfl)) rfl
theorem sX11_item : Cond.selects RX11 yX11_item yX11_item ∈ tblG := memT (tin_7 _ (List.mem_of_getElem? (i := 61) rfl)) rfl
abbrev mX11_read : MI := (yX11_read, cX11_read, 3, (some (.long)))
theorem qX11_read : Cal mX11_read 2 := ⟨memT (tin_1 _ (List.mem_of_getElem? (i := 12) rfl)) rfl, memT (tin_7 _ (List.mem_of_getElem? (i := 70) rfl)) rfl, ⟨by decide +kernel, by decide +kernel⟩, by decide +kernel⟩
theorem vX11_read : Cond.instanceMethod yX11_read ∈ tblG := memT (tin_7 _ (List.mem_of_getElem? (i := 68) rfl)) rfl
theorem sX11_read : Cond.selects RX11 yX11_read yX11_read ∈ tblG := memT (tin_7 _ (List.mem_of_getElem? (i := 69) rfl)) rfl
abbrev mX11_shift : MI := (yX11_shift, cX11_shift, 7, (some (.int)))
theorem qX11_shift : Cal mX11_shift 5 := ⟨memT (tin_1 _ (List.mem_of_getElem? (i := 12) rfl)) rfl, memT (tin_7 _ (List.mem_of_getElem? (i := 74) rfl)) rfl, ⟨by decide +kernel, by decide +kernel⟩, by decide +kernel⟩
theorem vX11_shift : Cond.instanceMethod yX11_shift ∈ tblG := memT (tin_7 _ (List.mem_of_getElem? (i := 72) rfl)) rfl
theorem sX11_shift : Cond.selects RX11 yX11_shift yX11_shift ∈ tblG := memT (tin_7 _ (List.mem_of_getElem? (i := 73) rfl)) rfl
abbrev mJ11_isValidCodePoint_9a6ad : MI := (yJ11_isValidCodePoint_9a6ad, cJ11_isValidCodePoint_9a6ad, 2, (some (.boolean)))
theorem qJ11_isValidCodePoint_9a6ad : Cal mJ11_isValidCodePoint_9a6ad 1 := ⟨memT (tin_1 _ (List.mem_of_getElem? (i := 17) rfl)) rfl, memT (tin_3 _ (List.mem_of_getElem? (i := 104) rfl)) rfl, ⟨by decide +kernel, by decide +kernel⟩, by decide +kernel⟩
theorem vJ11_isValidCodePoint_9a6ad : Cond.static yJ11_isValidCodePoint_9a6ad ∈ tblG := memT (tin_3 _ (List.mem_of_getElem? (i := 103) rfl)) rfl
abbrev mJ11_highSurrogate_5068e : MI := (yJ11_highSurrogate_5068e, cJ11_highSurrogate_5068e, 1, (some (.char)))
theorem qJ11_highSurrogate_5068e : Cal mJ11_highSurrogate_5068e 1 := ⟨memT (tin_1 _ (List.mem_of_getElem? (i := 17) rfl)) rfl, memT (tin_3 _ (List.mem_of_getElem? (i := 107) rfl)) rfl, ⟨by decide +kernel, by decide +kernel⟩, by decide +kernel⟩
theorem vJ11_highSurrogate_5068e : Cond.static yJ11_highSurrogate_5068e ∈ tblG := memT (tin_3 _ (List.mem_of_getElem? (i := 106) rfl)) rfl
abbrev mJ11_lowSurrogate_5068e : MI := (yJ11_lowSurrogate_5068e, cJ11_lowSurrogate_5068e, 1, (some (.char)))
theorem qJ11_lowSurrogate_5068e : Cal mJ11_lowSurrogate_5068e 1 := ⟨memT (tin_1 _ (List.mem_of_getElem? (i := 17) rfl)) rfl, memT (tin_3 _ (List.mem_of_getElem? (i := 111) rfl)) rfl, ⟨by decide +kernel, by decide +kernel⟩, by decide +kernel⟩
theorem vJ11_lowSurrogate_5068e : Cond.static yJ11_lowSurrogate_5068e ∈ tblG := memT (tin_3 _ (List.mem_of_getElem? (i := 110) rfl)) rfl
abbrev mJ6_bitCount_0f7a4 : MI := (yJ6_bitCount_0f7a4, cJ6_bitCount_0f7a4, 1, (some (.int)))
theorem qJ6_bitCount_0f7a4 : Cal mJ6_bitCount_0f7a4 1 := ⟨memT (tin_1 _ (List.mem_of_getElem? (i := 18) rfl)) rfl, memT (tin_3 _ (List.mem_of_getElem? (i := 185) rfl)) rfl, ⟨by decide +kernel, by decide +kernel⟩, by decide +kernel⟩
theorem vJ6_bitCount_0f7a4 : Cond.static yJ6_bitCount_0f7a4 ∈ tblG := memT (tin_3 _ (List.mem_of_getElem? (i := 184) rfl)) rfl
abbrev mJ9_abs_0f7a4 : MI := (yJ9_abs_0f7a4, cJ9_abs_0f7a4, 1, (some (.int)))
theorem qJ9_abs_0f7a4 : Cal mJ9_abs_0f7a4 1 := ⟨memT (tin_1 _ (List.mem_of_getElem? (i := 4) rfl)) rfl, memT (tin_3 _ (List.mem_of_getElem? (i := 167) rfl)) rfl, ⟨by decide +kernel, by decide +kernel⟩, by decide +kernel⟩
theorem vJ9_abs_0f7a4 : Cond.static yJ9_abs_0f7a4 ∈ tblG := memT (tin_3 _ (List.mem_of_getElem? (i := 166) rfl)) rfl
abbrev mJ9_max_7cf53 : MI := (yJ9_max_7cf53, cJ9_max_7cf53, 2, (some (.int)))
theorem qJ9_max_7cf53 : Cal mJ9_max_7cf53 2 := ⟨memT (tin_1 _ (List.mem_of_getElem? (i := 4) rfl)) rfl, memT (tin_1 _ (List.mem_of_getElem? (i := 43) rfl)) rfl, ⟨by decide +kernel, by decide +kernel⟩, by decide +kernel⟩
theorem vJ9_max_7cf53 : Cond.static yJ9_max_7cf53 ∈ tblG := memT (tin_1 _ (List.mem_of_getElem? (i := 42) rfl)) rfl
abbrev mJ9_min_7cf53 : MI := (yJ9_min_7cf53, cJ9_min_7cf53, 2, (some (.int)))
theorem qJ9_min_7cf53 : Cal mJ9_min_7cf53 2 := ⟨memT (tin_1 _ (List.mem_of_getElem? (i := 4) rfl)) rfl, memT (tin_3 _ (List.mem_of_getElem? (i := 74) rfl)) rfl, ⟨by decide +kernel, by decide +kernel⟩, by decide +kernel⟩
theorem vJ9_min_7cf53 : Cond.static yJ9_min_7cf53 ∈ tblG := memT (tin_3 _ (List.mem_of_getElem? (i := 73) rfl)) rfl
abbrev mJ0_length_8abf5 : MI := (yJ0_length_8abf5, cJ0_length_8abf5, 1, (some (.int)))
theorem qJ0_length_8abf5 : Cal mJ0_length_8abf5 0 := ⟨memT (tin_1 _ (List.mem_of_getElem? (i := 13) rfl)) rfl, memT (tin_3 _ (List.mem_of_getElem? (i := 2) rfl)) rfl, ⟨by decide +kernel, by decide +kernel⟩, by decide +kernel⟩
theorem vJ0_length_8abf5 : Cond.instanceMethod yJ0_length_8abf5 ∈ tblG := memT (tin_3 _ (List.mem_of_getElem? (i := 0) rfl)) rfl
theorem sJ0_length_8abf5 : Cond.selects RJ0 yJ0_length_8abf5 yJ0_length_8abf5 ∈ tblG := memT (tin_3 _ (List.mem_of_getElem? (i := 1) rfl)) rfl
abbrev mJ0_charAt_5068e : MI := (yJ0_charAt_5068e, cJ0_charAt_5068e, 2, (some (.char)))
theorem qJ0_charAt_5068e : Cal mJ0_charAt_5068e 1 := ⟨memT (tin_1 _ (List.mem_of_getElem? (i := 13) rfl)) rfl, memT (tin_3 _ (List.mem_of_getElem? (i := 12) rfl)) rfl, ⟨by decide +kernel, by decide +kernel⟩, by decide +kernel⟩
theorem vJ0_charAt_5068e : Cond.instanceMethod yJ0_charAt_5068e ∈ tblG := memT (tin_3 _ (List.mem_of_getElem? (i := 10) rfl)) rfl
theorem sJ0_charAt_5068e : Cond.selects RJ0 yJ0_charAt_5068e yJ0_charAt_5068e ∈ tblG := memT (tin_3 _ (List.mem_of_getElem? (i := 11) rfl)) rfl
abbrev mJ0_indexOf_0f7a4 : MI := (yJ0_indexOf_0f7a4, cJ0_indexOf_0f7a4, 2, (some (.int)))
theorem qJ0_indexOf_0f7a4 : Cal mJ0_indexOf_0f7a4 1 := ⟨memT (tin_1 _ (List.mem_of_getElem? (i := 13) rfl)) rfl, memT (tin_3 _ (List.mem_of_getElem? (i := 59) rfl)) rfl, ⟨by decide +kernel, by decide +kernel⟩, by decide +kernel⟩
theorem vJ0_indexOf_0f7a4 : Cond.instanceMethod yJ0_indexOf_0f7a4 ∈ tblG := memT (tin_3 _ (List.mem_of_getElem? (i := 57) rfl)) rfl
theorem sJ0_indexOf_0f7a4 : Cond.selects RJ0 yJ0_indexOf_0f7a4 yJ0_indexOf_0f7a4 ∈ tblG := memT (tin_3 _ (List.mem_of_getElem? (i := 58) rfl)) rfl
abbrev mJ0_indexOf_7cf53 : MI := (yJ0_indexOf_7cf53, cJ0_indexOf_7cf53, 3, (some (.int)))
theorem qJ0_indexOf_7cf53 : Cal mJ0_indexOf_7cf53 2 := ⟨memT (tin_1 _ (List.mem_of_getElem? (i := 13) rfl)) rfl, memT (tin_3 _ (List.mem_of_getElem? (i := 63) rfl)) rfl, ⟨by decide +kernel, by decide +kernel⟩, by decide +kernel⟩
theorem vJ0_indexOf_7cf53 : Cond.instanceMethod yJ0_indexOf_7cf53 ∈ tblG := memT (tin_3 _ (List.mem_of_getElem? (i := 61) rfl)) rfl
theorem sJ0_indexOf_7cf53 : Cond.selects RJ0 yJ0_indexOf_7cf53 yJ0_indexOf_7cf53 ∈ tblG := memT (tin_3 _ (List.mem_of_getElem? (i := 62) rfl)) rfl
abbrev mJ0_coder_7d493 : MI := (yJ0_coder_7d493, cJ0_coder_7d493, 1, (some (.byte)))
theorem qJ0_coder_7d493 : Cal mJ0_coder_7d493 0 := ⟨memT (tin_1 _ (List.mem_of_getElem? (i := 13) rfl)) rfl, memT (tin_3 _ (List.mem_of_getElem? (i := 6) rfl)) rfl, ⟨by decide +kernel, by decide +kernel⟩, by decide +kernel⟩
theorem vJ0_coder_7d493 : Cond.instanceMethod yJ0_coder_7d493 ∈ tblG := memT (tin_3 _ (List.mem_of_getElem? (i := 4) rfl)) rfl
theorem sJ0_coder_7d493 : Cond.selects RJ0 yJ0_coder_7d493 yJ0_coder_7d493 ∈ tblG := memT (tin_3 _ (List.mem_of_getElem? (i := 5) rfl)) rfl
abbrev mJ0_isLatin1_aae02 : MI := (yJ0_isLatin1_aae02, cJ0_isLatin1_aae02, 1, (some (.boolean)))
theorem qJ0_isLatin1_aae02 : Cal mJ0_isLatin1_aae02 0 := ⟨memT (tin_1 _ (List.mem_of_getElem? (i := 13) rfl)) rfl, memT (tin_3 _ (List.mem_of_getElem? (i := 16) rfl)) rfl, ⟨by decide +kernel, by decide +kernel⟩, by decide +kernel⟩
theorem vJ0_isLatin1_aae02 : Cond.instanceMethod yJ0_isLatin1_aae02 ∈ tblG := memT (tin_3 _ (List.mem_of_getElem? (i := 14) rfl)) rfl
theorem sJ0_isLatin1_aae02 : Cond.selects RJ0 yJ0_isLatin1_aae02 yJ0_isLatin1_aae02 ∈ tblG := memT (tin_3 _ (List.mem_of_getElem? (i := 15) rfl)) rfl
abbrev mJ0_checkIndex_df160 : MI := (yJ0_checkIndex_df160, cJ0_checkIndex_df160, 2, none)
theorem qJ0_checkIndex_df160 : Cal mJ0_checkIndex_df160 2 := ⟨memT (tin_1 _ (List.mem_of_getElem? (i := 13) rfl)) rfl, memT (tin_3 _ (List.mem_of_getElem? (i := 22) rfl)) rfl, ⟨by decide +kernel, by decide +kernel⟩, by decide +kernel⟩
theorem vJ0_checkIndex_df160 : Cond.static yJ0_checkIndex_df160 ∈ tblG := memT (tin_3 _ (List.mem_of_getElem? (i := 21) rfl)) rfl
abbrev mJ0_checkBoundsBeginEnd_23922 : MI := (yJ0_checkBoundsBeginEnd_23922, cJ0_checkBoundsBeginEnd_23922, 3, none)
theorem qJ0_checkBoundsBeginEnd_23922 : Cal mJ0_checkBoundsBeginEnd_23922 3 := ⟨memT (tin_1 _ (List.mem_of_getElem? (i := 13) rfl)) rfl, memT (tin_3 _ (List.mem_of_getElem? (i := 92) rfl)) rfl, ⟨by decide +kernel, by decide +kernel⟩, by decide +kernel⟩
theorem vJ0_checkBoundsBeginEnd_23922 : Cond.static yJ0_checkBoundsBeginEnd_23922 ∈ tblG := memT (tin_3 _ (List.mem_of_getElem? (i := 91) rfl)) rfl
abbrev mJ1_charAt_3b067 : MI := (yJ1_charAt_3b067, cJ1_charAt_3b067, 2, (some (.char)))
theorem qJ1_charAt_3b067 : Cal mJ1_charAt_3b067 2 := ⟨memT (tin_1 _ (List.mem_of_getElem? (i := 14) rfl)) rfl, memT (tin_3 _ (List.mem_of_getElem? (i := 19) rfl)) rfl, ⟨by decide +kernel, by decide +kernel⟩, by decide +kernel⟩
theorem vJ1_charAt_3b067 : Cond.static yJ1_charAt_3b067 ∈ tblG := memT (tin_3 _ (List.mem_of_getElem? (i := 18) rfl)) rfl
abbrev mJ1_canEncode_9a6ad : MI := (yJ1_canEncode_9a6ad, cJ1_canEncode_9a6ad, 1, (some (.boolean)))
theorem qJ1_canEncode_9a6ad : Cal mJ1_canEncode_9a6ad 1 := ⟨memT (tin_1 _ (List.mem_of_getElem? (i := 14) rfl)) rfl, memT (tin_3 _ (List.mem_of_getElem? (i := 70) rfl)) rfl, ⟨by decide +kernel, by decide +kernel⟩, by decide +kernel⟩
theorem vJ1_canEncode_9a6ad : Cond.static yJ1_canEncode_9a6ad ∈ tblG := memT (tin_3 _ (List.mem_of_getElem? (i := 69) rfl)) rfl
abbrev mJ1_indexOf_4cfef : MI := (yJ1_indexOf_4cfef, cJ1_indexOf_4cfef, 4, (some (.int)))
theorem qJ1_indexOf_4cfef : Cal mJ1_indexOf_4cfef 4 := ⟨memT (tin_1 _ (List.mem_of_getElem? (i := 14) rfl)) rfl, memT (tin_3 _ (List.mem_of_getElem? (i := 67) rfl)) rfl, ⟨by decide +kernel, by decide +kernel⟩, by decide +kernel⟩
theorem vJ1_indexOf_4cfef : Cond.static yJ1_indexOf_4cfef ∈ tblG := memT (tin_3 _ (List.mem_of_getElem? (i := 66) rfl)) rfl
abbrev mJ1_indexOfChar_4cfef : MI := (yJ1_indexOfChar_4cfef, cJ1_indexOfChar_4cfef, 6, (some (.int)))
theorem qJ1_indexOfChar_4cfef : Cal mJ1_indexOfChar_4cfef 4 := ⟨memT (tin_1 _ (List.mem_of_getElem? (i := 14) rfl)) rfl, memT (tin_3 _ (List.mem_of_getElem? (i := 77) rfl)) rfl, ⟨by decide +kernel, by decide +kernel⟩, by decide +kernel⟩
theorem vJ1_indexOfChar_4cfef : Cond.static yJ1_indexOfChar_4cfef ∈ tblG := memT (tin_3 _ (List.mem_of_getElem? (i := 76) rfl)) rfl
abbrev mJ2_getChar_3b067 : MI := (yJ2_getChar_3b067, cJ2_getChar_3b067, 2, (some (.char)))
theorem qJ2_getChar_3b067 : Cal mJ2_getChar_3b067 2 := ⟨memT (tin_1 _ (List.mem_of_getElem? (i := 16) rfl)) rfl, memT (tin_3 _ (List.mem_of_getElem? (i := 40) rfl)) rfl, ⟨by decide +kernel, by decide +kernel⟩, by decide +kernel⟩
theorem vJ2_getChar_3b067 : Cond.static yJ2_getChar_3b067 ∈ tblG := memT (tin_3 _ (List.mem_of_getElem? (i := 39) rfl)) rfl
abbrev mJ2_length_9d52b : MI := (yJ2_length_9d52b, cJ2_length_9d52b, 1, (some (.int)))
theorem qJ2_length_9d52b : Cal mJ2_length_9d52b 1 := ⟨memT (tin_1 _ (List.mem_of_getElem? (i := 16) rfl)) rfl, memT (tin_3 _ (List.mem_of_getElem? (i := 36) rfl)) rfl, ⟨by decide +kernel, by decide +kernel⟩, by decide +kernel⟩
theorem vJ2_length_9d52b : Cond.static yJ2_length_9d52b ∈ tblG := memT (tin_3 _ (List.mem_of_getElem? (i := 35) rfl)) rfl
abbrev mJ2_indexOf_4cfef : MI := (yJ2_indexOf_4cfef, cJ2_indexOf_4cfef, 4, (some (.int)))
theorem qJ2_indexOf_4cfef : Cal mJ2_indexOf_4cfef 4 := ⟨memT (tin_1 _ (List.mem_of_getElem? (i := 16) rfl)) rfl, memT (tin_3 _ (List.mem_of_getElem? (i := 80) rfl)) rfl, ⟨by decide +kernel, by decide +kernel⟩, by decide +kernel⟩
theorem vJ2_indexOf_4cfef : Cond.static yJ2_indexOf_4cfef ∈ tblG := memT (tin_3 _ (List.mem_of_getElem? (i := 79) rfl)) rfl
abbrev mJ2_indexOfChar_4cfef : MI := (yJ2_indexOfChar_4cfef, cJ2_indexOfChar_4cfef, 4, (some (.int)))
theorem qJ2_indexOfChar_4cfef : Cal mJ2_indexOfChar_4cfef 4 := ⟨memT (tin_1 _ (List.mem_of_getElem? (i := 16) rfl)) rfl, memT (tin_3 _ (List.mem_of_getElem? (i := 86) rfl)) rfl, ⟨by decide +kernel, by decide +kernel⟩, by decide +kernel⟩
theorem vJ2_indexOfChar_4cfef : Cond.static yJ2_indexOfChar_4cfef ∈ tblG := memT (tin_3 _ (List.mem_of_getElem? (i := 85) rfl)) rfl
abbrev mJ2_indexOfCharUnsafe_4cfef : MI := (yJ2_indexOfCharUnsafe_4cfef, cJ2_indexOfCharUnsafe_4cfef, 5, (some (.int)))
theorem qJ2_indexOfCharUnsafe_4cfef : Cal mJ2_indexOfCharUnsafe_4cfef 4 := ⟨memT (tin_1 _ (List.mem_of_getElem? (i := 16) rfl)) rfl, memT (tin_3 _ (List.mem_of_getElem? (i := 98) rfl)) rfl, ⟨by decide +kernel, by decide +kernel⟩, by decide +kernel⟩
theorem vJ2_indexOfCharUnsafe_4cfef : Cond.static yJ2_indexOfCharUnsafe_4cfef ∈ tblG := memT (tin_3 _ (List.mem_of_getElem? (i := 97) rfl)) rfl
abbrev mJ2_indexOfSupplementary_4cfef : MI := (yJ2_indexOfSupplementary_4cfef, cJ2_indexOfSupplementary_4cfef, 7, (some (.int)))
theorem qJ2_indexOfSupplementary_4cfef : Cal mJ2_indexOfSupplementary_4cfef 4 := ⟨memT (tin_1 _ (List.mem_of_getElem? (i := 16) rfl)) rfl, memT (tin_3 _ (List.mem_of_getElem? (i := 101) rfl)) rfl, ⟨by decide +kernel, by decide +kernel⟩, by decide +kernel⟩
theorem vJ2_indexOfSupplementary_4cfef : Cond.static yJ2_indexOfSupplementary_4cfef ∈ tblG := memT (tin_3 _ (List.mem_of_getElem? (i := 100) rfl)) rfl
abbrev mJ2_charAt_3b067 : MI := (yJ2_charAt_3b067, cJ2_charAt_3b067, 2, (some (.char)))
theorem qJ2_charAt_3b067 : Cal mJ2_charAt_3b067 2 := ⟨memT (tin_1 _ (List.mem_of_getElem? (i := 16) rfl)) rfl, memT (tin_3 _ (List.mem_of_getElem? (i := 30) rfl)) rfl, ⟨by decide +kernel, by decide +kernel⟩, by decide +kernel⟩
theorem vJ2_charAt_3b067 : Cond.static yJ2_charAt_3b067 ∈ tblG := memT (tin_3 _ (List.mem_of_getElem? (i := 29) rfl)) rfl
abbrev mJ2_checkIndex_2214a : MI := (yJ2_checkIndex_2214a, cJ2_checkIndex_2214a, 2, none)
theorem qJ2_checkIndex_2214a : Cal mJ2_checkIndex_2214a 2 := ⟨memT (tin_1 _ (List.mem_of_getElem? (i := 16) rfl)) rfl, memT (tin_3 _ (List.mem_of_getElem? (i := 33) rfl)) rfl, ⟨by decide +kernel, by decide +kernel⟩, by decide +kernel⟩
theorem vJ2_checkIndex_2214a : Cond.static yJ2_checkIndex_2214a ∈ tblG := memT (tin_3 _ (List.mem_of_getElem? (i := 32) rfl)) rfl
abbrev mJ2_checkBoundsBeginEnd_d044e : MI := (yJ2_checkBoundsBeginEnd_d044e, cJ2_checkBoundsBeginEnd_d044e, 3, none)
theorem qJ2_checkBoundsBeginEnd_d044e : Cal mJ2_checkBoundsBeginEnd_d044e 3 := ⟨memT (tin_1 _ (List.mem_of_getElem? (i := 16) rfl)) rfl, memT (tin_3 _ (List.mem_of_getElem? (i := 89) rfl)) rfl, ⟨by decide +kernel, by decide +kernel⟩, by decide +kernel⟩
theorem vJ2_checkBoundsBeginEnd_d044e : Cond.static yJ2_checkBoundsBeginEnd_d044e ∈ tblG := memT (tin_3 _ (List.mem_of_getElem? (i := 88) rfl)) rfl
abbrev mJ7_fill_d0a16 : MI := (yJ7_fill_d0a16, cJ7_fill_d0a16, 5, none)
theorem qJ7_fill_d0a16 : Cal mJ7_fill_d0a16 2 := ⟨memT (tin_1 _ (List.mem_of_getElem? (i := 20) rfl)) rfl, memT (tin_4 _ (List.mem_of_getElem? (i := 201) rfl)) rfl, ⟨by decide +kernel, by decide +kernel⟩, by decide +kernel⟩
theorem vJ7_fill_d0a16 : Cond.static yJ7_fill_d0a16 ∈ tblG := memT (tin_4 _ (List.mem_of_getElem? (i := 200) rfl)) rfl
abbrev mJ3_checkIndex_8e157 : MI := (yJ3_checkIndex_8e157, cJ3_checkIndex_8e157, 3, (some (.int)))
theorem qJ3_checkIndex_8e157 : Cal mJ3_checkIndex_8e157 3 := ⟨memT (tin_1 _ (List.mem_of_getElem? (i := 15) rfl)) rfl, memT (tin_3 _ (List.mem_of_getElem? (i := 27) rfl)) rfl, ⟨by decide +kernel, by decide +kernel⟩, by decide +kernel⟩
theorem vJ3_checkIndex_8e157 : Cond.static yJ3_checkIndex_8e157 ∈ tblG := memT (tin_3 _ (List.mem_of_getElem? (i := 26) rfl)) rfl
abbrev mJ3_checkFromToIndex_8c36e : MI := (yJ3_checkFromToIndex_8c36e, cJ3_checkFromToIndex_8c36e, 4, (some (.int)))
theorem qJ3_checkFromToIndex_8c36e : Cal mJ3_checkFromToIndex_8c36e 4 := ⟨memT (tin_1 _ (List.mem_of_getElem? (i := 15) rfl)) rfl, memT (tin_3 _ (List.mem_of_getElem? (i := 95) rfl)) rfl, ⟨by decide +kernel, by decide +kernel⟩, by decide +kernel⟩
theorem vJ3_checkFromToIndex_8c36e : Cond.static yJ3_checkFromToIndex_8c36e ∈ tblG := memT (tin_3 _ (List.mem_of_getElem? (i := 94) rfl)) rfl
abbrev mL_law : MI := (yL_law, cL_law, 4, some .boolean)
theorem inX0 : ∀ w ∈ u_ws RX0 TX0 5, w ∈ tblG := by
  intro w h
  obtain ⟨k, hk, rfl⟩ := List.mem_map.mp h
  have hk := List.mem_range.mp hk
  have key : ∀ k, k < 5 → (u_lay RX0 TX0 k ∈ lw_tbl ∧ goodWord (u_lay RX0 TX0 k) = true) := by
    intro k hk
    match k, hk with
    | 0, _ => exact ⟨tin_1 _ (List.mem_of_getElem? (i := 183) rfl), rfl⟩
    | 1, _ => exact ⟨tin_1 _ (List.mem_of_getElem? (i := 185) rfl), rfl⟩
    | 2, _ => exact ⟨tin_1 _ (List.mem_of_getElem? (i := 187) rfl), rfl⟩
    | 3, _ => exact ⟨tin_1 _ (List.mem_of_getElem? (i := 189) rfl), rfl⟩
    | 4, _ => exact ⟨tin_1 _ (List.mem_of_getElem? (i := 191) rfl), rfl⟩
    | k + 5, h => exact absurd h (by omega)
  exact memT (key k hk).1 (key k hk).2
theorem newX0 : Cond.instantiable RX0 5 ∈ tblG ∧ Cond.initialized RX0 ∈ tblG := ⟨memT (tin_1 _ (List.mem_of_getElem? (i := 172) rfl)) rfl, memT (tin_1 _ (List.mem_of_getElem? (i := 6) rfl)) rfl⟩
theorem inX1 : ∀ w ∈ u_ws RX1 TX1 10, w ∈ tblG := by
  intro w h
  obtain ⟨k, hk, rfl⟩ := List.mem_map.mp h
  have hk := List.mem_range.mp hk
  have key : ∀ k, k < 10 → (u_lay RX1 TX1 k ∈ lw_tbl ∧ goodWord (u_lay RX1 TX1 k) = true) := by
    intro k hk
    match k, hk with
    | 0, _ => exact ⟨tin_2 _ (List.mem_of_getElem? (i := 69) rfl), rfl⟩
    | 1, _ => exact ⟨tin_2 _ (List.mem_of_getElem? (i := 71) rfl), rfl⟩
    | 2, _ => exact ⟨tin_2 _ (List.mem_of_getElem? (i := 73) rfl), rfl⟩
    | 3, _ => exact ⟨tin_2 _ (List.mem_of_getElem? (i := 75) rfl), rfl⟩
    | 4, _ => exact ⟨tin_2 _ (List.mem_of_getElem? (i := 77) rfl), rfl⟩
    | 5, _ => exact ⟨tin_2 _ (List.mem_of_getElem? (i := 79) rfl), rfl⟩
    | 6, _ => exact ⟨tin_2 _ (List.mem_of_getElem? (i := 81) rfl), rfl⟩
    | 7, _ => exact ⟨tin_2 _ (List.mem_of_getElem? (i := 83) rfl), rfl⟩
    | 8, _ => exact ⟨tin_2 _ (List.mem_of_getElem? (i := 85) rfl), rfl⟩
    | 9, _ => exact ⟨tin_2 _ (List.mem_of_getElem? (i := 87) rfl), rfl⟩
    | k + 10, h => exact absurd h (by omega)
  exact memT (key k hk).1 (key k hk).2
theorem newX1 : Cond.instantiable RX1 10 ∈ tblG ∧ Cond.initialized RX1 ∈ tblG := ⟨memT (tin_2 _ (List.mem_of_getElem? (i := 49) rfl)) rfl, memT (tin_1 _ (List.mem_of_getElem? (i := 11) rfl)) rfl⟩
theorem inX2 : ∀ w ∈ u_ws RX2 TX2 4, w ∈ tblG := by
  intro w h
  obtain ⟨k, hk, rfl⟩ := List.mem_map.mp h
  have hk := List.mem_range.mp hk
  have key : ∀ k, k < 4 → (u_lay RX2 TX2 k ∈ lw_tbl ∧ goodWord (u_lay RX2 TX2 k) = true) := by
    intro k hk
    match k, hk with
    | 0, _ => exact ⟨tin_2 _ (List.mem_of_getElem? (i := 95) rfl), rfl⟩
    | 1, _ => exact ⟨tin_2 _ (List.mem_of_getElem? (i := 97) rfl), rfl⟩
    | 2, _ => exact ⟨tin_2 _ (List.mem_of_getElem? (i := 99) rfl), rfl⟩
    | 3, _ => exact ⟨tin_2 _ (List.mem_of_getElem? (i := 101) rfl), rfl⟩
    | k + 4, h => exact absurd h (by omega)
  exact memT (key k hk).1 (key k hk).2
theorem newX2 : Cond.instantiable RX2 4 ∈ tblG ∧ Cond.initialized RX2 ∈ tblG := ⟨memT (tin_2 _ (List.mem_of_getElem? (i := 15) rfl)) rfl, memT (tin_1 _ (List.mem_of_getElem? (i := 9) rfl)) rfl⟩
theorem inX3 : ∀ w ∈ u_ws RX3 TX3 5, w ∈ tblG := by
  intro w h
  obtain ⟨k, hk, rfl⟩ := List.mem_map.mp h
  have hk := List.mem_range.mp hk
  have key : ∀ k, k < 5 → (u_lay RX3 TX3 k ∈ lw_tbl ∧ goodWord (u_lay RX3 TX3 k) = true) := by
    intro k hk
    match k, hk with
    | 0, _ => exact ⟨tin_2 _ (List.mem_of_getElem? (i := 37) rfl), rfl⟩
    | 1, _ => exact ⟨tin_2 _ (List.mem_of_getElem? (i := 39) rfl), rfl⟩
    | 2, _ => exact ⟨tin_2 _ (List.mem_of_getElem? (i := 41) rfl), rfl⟩
    | 3, _ => exact ⟨tin_2 _ (List.mem_of_getElem? (i := 43) rfl), rfl⟩
    | 4, _ => exact ⟨tin_2 _ (List.mem_of_getElem? (i := 45) rfl), rfl⟩
    | k + 5, h => exact absurd h (by omega)
  exact memT (key k hk).1 (key k hk).2
theorem newX3 : Cond.instantiable RX3 5 ∈ tblG ∧ Cond.initialized RX3 ∈ tblG := ⟨memT (tin_2 _ (List.mem_of_getElem? (i := 21) rfl)) rfl, memT (tin_1 _ (List.mem_of_getElem? (i := 10) rfl)) rfl⟩
theorem inX4 : ∀ w ∈ u_ws RX4 TX4 3, w ∈ tblG := by
  intro w h
  obtain ⟨k, hk, rfl⟩ := List.mem_map.mp h
  have hk := List.mem_range.mp hk
  have key : ∀ k, k < 3 → (u_lay RX4 TX4 k ∈ lw_tbl ∧ goodWord (u_lay RX4 TX4 k) = true) := by
    intro k hk
    match k, hk with
    | 0, _ => exact ⟨tin_1 _ (List.mem_of_getElem? (i := 51) rfl), rfl⟩
    | 1, _ => exact ⟨tin_1 _ (List.mem_of_getElem? (i := 53) rfl), rfl⟩
    | 2, _ => exact ⟨tin_1 _ (List.mem_of_getElem? (i := 55) rfl), rfl⟩
    | k + 3, h => exact absurd h (by omega)
  exact memT (key k hk).1 (key k hk).2
theorem newX4 : Cond.instantiable RX4 3 ∈ tblG ∧ Cond.initialized RX4 ∈ tblG := ⟨memT (tin_1 _ (List.mem_of_getElem? (i := 36) rfl)) rfl, memT (tin_1 _ (List.mem_of_getElem? (i := 3) rfl)) rfl⟩
theorem inX5 : ∀ w ∈ u_ws RX5 TX5 14, w ∈ tblG := by
  intro w h
  obtain ⟨k, hk, rfl⟩ := List.mem_map.mp h
  have hk := List.mem_range.mp hk
  have key : ∀ k, k < 14 → (u_lay RX5 TX5 k ∈ lw_tbl ∧ goodWord (u_lay RX5 TX5 k) = true) := by
    intro k hk
    match k, hk with
    | 0, _ => exact ⟨tin_1 _ (List.mem_of_getElem? (i := 109) rfl), rfl⟩
    | 1, _ => exact ⟨tin_1 _ (List.mem_of_getElem? (i := 111) rfl), rfl⟩
    | 2, _ => exact ⟨tin_1 _ (List.mem_of_getElem? (i := 113) rfl), rfl⟩
    | 3, _ => exact ⟨tin_1 _ (List.mem_of_getElem? (i := 115) rfl), rfl⟩
    | 4, _ => exact ⟨tin_1 _ (List.mem_of_getElem? (i := 117) rfl), rfl⟩
    | 5, _ => exact ⟨tin_1 _ (List.mem_of_getElem? (i := 119) rfl), rfl⟩
    | 6, _ => exact ⟨tin_1 _ (List.mem_of_getElem? (i := 121) rfl), rfl⟩
    | 7, _ => exact ⟨tin_1 _ (List.mem_of_getElem? (i := 123) rfl), rfl⟩
    | 8, _ => exact ⟨tin_1 _ (List.mem_of_getElem? (i := 125) rfl), rfl⟩
    | 9, _ => exact ⟨tin_1 _ (List.mem_of_getElem? (i := 127) rfl), rfl⟩
    | 10, _ => exact ⟨tin_1 _ (List.mem_of_getElem? (i := 129) rfl), rfl⟩
    | 11, _ => exact ⟨tin_1 _ (List.mem_of_getElem? (i := 131) rfl), rfl⟩
    | 12, _ => exact ⟨tin_1 _ (List.mem_of_getElem? (i := 133) rfl), rfl⟩
    | 13, _ => exact ⟨tin_1 _ (List.mem_of_getElem? (i := 135) rfl), rfl⟩
    | k + 14, h => exact absurd h (by omega)
  exact memT (key k hk).1 (key k hk).2
theorem newX5 : Cond.instantiable RX5 14 ∈ tblG ∧ Cond.initialized RX5 ∈ tblG := ⟨memT (tin_1 _ (List.mem_of_getElem? (i := 30) rfl)) rfl, memT (tin_1 _ (List.mem_of_getElem? (i := 2) rfl)) rfl⟩
theorem inX6 : ∀ w ∈ u_ws RX6 TX6 3, w ∈ tblG := by
  intro w h
  obtain ⟨k, hk, rfl⟩ := List.mem_map.mp h
  have hk := List.mem_range.mp hk
  have key : ∀ k, k < 3 → (u_lay RX6 TX6 k ∈ lw_tbl ∧ goodWord (u_lay RX6 TX6 k) = true) := by
    intro k hk
    match k, hk with
    | 0, _ => exact ⟨tin_1 _ (List.mem_of_getElem? (i := 208) rfl), rfl⟩
    | 1, _ => exact ⟨tin_1 _ (List.mem_of_getElem? (i := 210) rfl), rfl⟩
    | 2, _ => exact ⟨tin_1 _ (List.mem_of_getElem? (i := 212) rfl), rfl⟩
    | k + 3, h => exact absurd h (by omega)
  exact memT (key k hk).1 (key k hk).2
theorem newX6 : Cond.instantiable RX6 3 ∈ tblG ∧ Cond.initialized RX6 ∈ tblG := ⟨memT (tin_1 _ (List.mem_of_getElem? (i := 195) rfl)) rfl, memT (tin_1 _ (List.mem_of_getElem? (i := 7) rfl)) rfl⟩
theorem inX7 : ∀ w ∈ u_ws RX7 TX7 7, w ∈ tblG := by
  intro w h
  obtain ⟨k, hk, rfl⟩ := List.mem_map.mp h
  have hk := List.mem_range.mp hk
  have key : ∀ k, k < 7 → (u_lay RX7 TX7 k ∈ lw_tbl ∧ goodWord (u_lay RX7 TX7 k) = true) := by
    intro k hk
    match k, hk with
    | 0, _ => exact ⟨tin_1 _ (List.mem_of_getElem? (i := 155) rfl), rfl⟩
    | 1, _ => exact ⟨tin_1 _ (List.mem_of_getElem? (i := 157) rfl), rfl⟩
    | 2, _ => exact ⟨tin_1 _ (List.mem_of_getElem? (i := 159) rfl), rfl⟩
    | 3, _ => exact ⟨tin_1 _ (List.mem_of_getElem? (i := 161) rfl), rfl⟩
    | 4, _ => exact ⟨tin_1 _ (List.mem_of_getElem? (i := 163) rfl), rfl⟩
    | 5, _ => exact ⟨tin_1 _ (List.mem_of_getElem? (i := 165) rfl), rfl⟩
    | 6, _ => exact ⟨tin_1 _ (List.mem_of_getElem? (i := 167) rfl), rfl⟩
    | k + 7, h => exact absurd h (by omega)
  exact memT (key k hk).1 (key k hk).2
theorem newX7 : Cond.instantiable RX7 7 ∈ tblG ∧ Cond.initialized RX7 ∈ tblG := ⟨memT (tin_1 _ (List.mem_of_getElem? (i := 139) rfl)) rfl, memT (tin_1 _ (List.mem_of_getElem? (i := 5) rfl)) rfl⟩
theorem inX9 : ∀ w ∈ u_ws RX9 TX9 7, w ∈ tblG := by
  intro w h
  obtain ⟨k, hk, rfl⟩ := List.mem_map.mp h
  have hk := List.mem_range.mp hk
  have key : ∀ k, k < 7 → (u_lay RX9 TX9 k ∈ lw_tbl ∧ goodWord (u_lay RX9 TX9 k) = true) := by
    intro k hk
    match k, hk with
    | 0, _ => exact ⟨tin_1 _ (List.mem_of_getElem? (i := 239) rfl), rfl⟩
    | 1, _ => exact ⟨tin_2 _ (List.mem_of_getElem? (i := 1) rfl), rfl⟩
    | 2, _ => exact ⟨tin_2 _ (List.mem_of_getElem? (i := 3) rfl), rfl⟩
    | 3, _ => exact ⟨tin_2 _ (List.mem_of_getElem? (i := 5) rfl), rfl⟩
    | 4, _ => exact ⟨tin_2 _ (List.mem_of_getElem? (i := 7) rfl), rfl⟩
    | 5, _ => exact ⟨tin_2 _ (List.mem_of_getElem? (i := 9) rfl), rfl⟩
    | 6, _ => exact ⟨tin_2 _ (List.mem_of_getElem? (i := 11) rfl), rfl⟩
    | k + 7, h => exact absurd h (by omega)
  exact memT (key k hk).1 (key k hk).2
theorem newX9 : Cond.instantiable RX9 7 ∈ tblG ∧ Cond.initialized RX9 ∈ tblG := ⟨memT (tin_1 _ (List.mem_of_getElem? (i := 217) rfl)) rfl, memT (tin_1 _ (List.mem_of_getElem? (i := 8) rfl)) rfl⟩
theorem inX10 : ∀ w ∈ u_ws RX10 TX10 8, w ∈ tblG := by
  intro w h
  obtain ⟨k, hk, rfl⟩ := List.mem_map.mp h
  have hk := List.mem_range.mp hk
  have key : ∀ k, k < 8 → (u_lay RX10 TX10 k ∈ lw_tbl ∧ goodWord (u_lay RX10 TX10 k) = true) := by
    intro k hk
    match k, hk with
    | 0, _ => exact ⟨tin_2 _ (List.mem_of_getElem? (i := 112) rfl), rfl⟩
    | 1, _ => exact ⟨tin_2 _ (List.mem_of_getElem? (i := 114) rfl), rfl⟩
    | 2, _ => exact ⟨tin_2 _ (List.mem_of_getElem? (i := 116) rfl), rfl⟩
    | 3, _ => exact ⟨tin_2 _ (List.mem_of_getElem? (i := 118) rfl), rfl⟩
    | 4, _ => exact ⟨tin_2 _ (List.mem_of_getElem? (i := 120) rfl), rfl⟩
    | 5, _ => exact ⟨tin_2 _ (List.mem_of_getElem? (i := 122) rfl), rfl⟩
    | 6, _ => exact ⟨tin_2 _ (List.mem_of_getElem? (i := 124) rfl), rfl⟩
    | 7, _ => exact ⟨tin_2 _ (List.mem_of_getElem? (i := 126) rfl), rfl⟩
    | k + 8, h => exact absurd h (by omega)
  exact memT (key k hk).1 (key k hk).2
theorem newX10 : Cond.instantiable RX10 8 ∈ tblG ∧ Cond.initialized RX10 ∈ tblG := ⟨memT (tin_1 _ (List.mem_of_getElem? (i := 22) rfl)) rfl, memT (tin_1 _ (List.mem_of_getElem? (i := 1) rfl)) rfl⟩
theorem inX11 : ∀ w ∈ u_ws RX11 TX11 70, w ∈ tblG := by
  intro w h
  obtain ⟨k, hk, rfl⟩ := List.mem_map.mp h
  have hk := List.mem_range.mp hk
  have key : ∀ k, k < 70 → (u_lay RX11 TX11 k ∈ lw_tbl ∧ goodWord (u_lay RX11 TX11 k) = true) := by
    intro k hk
    match k, hk with
    | 0, _ => exact ⟨tin_5 _ (List.mem_of_getElem? (i := 54) rfl), rfl⟩
    | 1, _ => exact ⟨tin_5 _ (List.mem_of_getElem? (i := 56) rfl), rfl⟩
    | 2, _ => exact ⟨tin_5 _ (List.mem_of_getElem? (i := 58) rfl), rfl⟩
    | 3, _ => exact ⟨tin_5 _ (List.mem_of_getElem? (i := 60) rfl), rfl⟩
    | 4, _ => exact ⟨tin_5 _ (List.mem_of_getElem? (i := 62) rfl), rfl⟩
    | 5, _ => exact ⟨tin_5 _ (List.mem_of_getElem? (i := 64) rfl), rfl⟩
    | 6, _ => exact ⟨tin_5 _ (List.mem_of_getElem? (i := 66) rfl), rfl⟩
    | 7, _ => exact ⟨tin_5 _ (List.mem_of_getElem? (i := 68) rfl), rfl⟩
    | 8, _ => exact ⟨tin_5 _ (List.mem_of_getElem? (i := 70) rfl), rfl⟩
    | 9, _ => exact ⟨tin_5 _ (List.mem_of_getElem? (i := 72) rfl), rfl⟩
    | 10, _ => exact ⟨tin_5 _ (List.mem_of_getElem? (i := 74) rfl), rfl⟩
    | 11, _ => exact ⟨tin_5 _ (List.mem_of_getElem? (i := 76) rfl), rfl⟩
    | 12, _ => exact ⟨tin_5 _ (List.mem_of_getElem? (i := 78) rfl), rfl⟩
    | 13, _ => exact ⟨tin_5 _ (List.mem_of_getElem? (i := 80) rfl), rfl⟩
    | 14, _ => exact ⟨tin_5 _ (List.mem_of_getElem? (i := 82) rfl), rfl⟩
    | 15, _ => exact ⟨tin_5 _ (List.mem_of_getElem? (i := 84) rfl), rfl⟩
    | 16, _ => exact ⟨tin_5 _ (List.mem_of_getElem? (i := 86) rfl), rfl⟩
    | 17, _ => exact ⟨tin_5 _ (List.mem_of_getElem? (i := 88) rfl), rfl⟩
    | 18, _ => exact ⟨tin_5 _ (List.mem_of_getElem? (i := 90) rfl), rfl⟩
    | 19, _ => exact ⟨tin_5 _ (List.mem_of_getElem? (i := 92) rfl), rfl⟩
    | 20, _ => exact ⟨tin_5 _ (List.mem_of_getElem? (i := 94) rfl), rfl⟩
    | 21, _ => exact ⟨tin_5 _ (List.mem_of_getElem? (i := 96) rfl), rfl⟩
    | 22, _ => exact ⟨tin_5 _ (List.mem_of_getElem? (i := 98) rfl), rfl⟩
    | 23, _ => exact ⟨tin_5 _ (List.mem_of_getElem? (i := 100) rfl), rfl⟩
    | 24, _ => exact ⟨tin_5 _ (List.mem_of_getElem? (i := 102) rfl), rfl⟩
    | 25, _ => exact ⟨tin_5 _ (List.mem_of_getElem? (i := 104) rfl), rfl⟩
    | 26, _ => exact ⟨tin_5 _ (List.mem_of_getElem? (i := 106) rfl), rfl⟩
    | 27, _ => exact ⟨tin_5 _ (List.mem_of_getElem? (i := 108) rfl), rfl⟩
    | 28, _ => exact ⟨tin_5 _ (List.mem_of_getElem? (i := 110) rfl), rfl⟩
    | 29, _ => exact ⟨tin_5 _ (List.mem_of_getElem? (i := 112) rfl), rfl⟩
    | 30, _ => exact ⟨tin_5 _ (List.mem_of_getElem? (i := 114) rfl), rfl⟩
    | 31, _ => exact ⟨tin_5 _ (List.mem_of_getElem? (i := 116) rfl), rfl⟩
    | 32, _ => exact ⟨tin_5 _ (List.mem_of_getElem? (i := 118) rfl), rfl⟩
    | 33, _ => exact ⟨tin_5 _ (List.mem_of_getElem? (i := 120) rfl), rfl⟩
    | 34, _ => exact ⟨tin_5 _ (List.mem_of_getElem? (i := 122) rfl), rfl⟩
    | 35, _ => exact ⟨tin_5 _ (List.mem_of_getElem? (i := 124) rfl), rfl⟩
    | 36, _ => exact ⟨tin_5 _ (List.mem_of_getElem? (i := 126) rfl), rfl⟩
    | 37, _ => exact ⟨tin_5 _ (List.mem_of_getElem? (i := 128) rfl), rfl⟩
    | 38, _ => exact ⟨tin_5 _ (List.mem_of_getElem? (i := 130) rfl), rfl⟩
    | 39, _ => exact ⟨tin_5 _ (List.mem_of_getElem? (i := 132) rfl), rfl⟩
    | 40, _ => exact ⟨tin_5 _ (List.mem_of_getElem? (i := 134) rfl), rfl⟩
    | 41, _ => exact ⟨tin_5 _ (List.mem_of_getElem? (i := 136) rfl), rfl⟩
    | 42, _ => exact ⟨tin_5 _ (List.mem_of_getElem? (i := 138) rfl), rfl⟩
    | 43, _ => exact ⟨tin_5 _ (List.mem_of_getElem? (i := 140) rfl), rfl⟩
    | 44, _ => exact ⟨tin_5 _ (List.mem_of_getElem? (i := 142) rfl), rfl⟩
    | 45, _ => exact ⟨tin_5 _ (List.mem_of_getElem? (i := 144) rfl), rfl⟩
    | 46, _ => exact ⟨tin_5 _ (List.mem_of_getElem? (i := 146) rfl), rfl⟩
    | 47, _ => exact ⟨tin_5 _ (List.mem_of_getElem? (i := 148) rfl), rfl⟩
    | 48, _ => exact ⟨tin_5 _ (List.mem_of_getElem? (i := 150) rfl), rfl⟩
    | 49, _ => exact ⟨tin_5 _ (List.mem_of_getElem? (i := 152) rfl), rfl⟩
    | 50, _ => exact ⟨tin_5 _ (List.mem_of_getElem? (i := 154) rfl), rfl⟩
    | 51, _ => exact ⟨tin_5 _ (List.mem_of_getElem? (i := 156) rfl), rfl⟩
    | 52, _ => exact ⟨tin_5 _ (List.mem_of_getElem? (i := 158) rfl), rfl⟩
    | 53, _ => exact ⟨tin_5 _ (List.mem_of_getElem? (i := 160) rfl), rfl⟩
    | 54, _ => exact ⟨tin_5 _ (List.mem_of_getElem? (i := 162) rfl), rfl⟩
    | 55, _ => exact ⟨tin_5 _ (List.mem_of_getElem? (i := 164) rfl), rfl⟩
    | 56, _ => exact ⟨tin_5 _ (List.mem_of_getElem? (i := 166) rfl), rfl⟩
    | 57, _ => exact ⟨tin_5 _ (List.mem_of_getElem? (i := 168) rfl), rfl⟩
    | 58, _ => exact ⟨tin_5 _ (List.mem_of_getElem? (i := 170) rfl), rfl⟩
    | 59, _ => exact ⟨tin_5 _ (List.mem_of_getElem? (i := 172) rfl), rfl⟩
    | 60, _ => exact ⟨tin_5 _ (List.mem_of_getElem? (i := 174) rfl), rfl⟩
    | 61, _ => exact ⟨tin_5 _ (List.mem_of_getElem? (i := 176) rfl), rfl⟩
    | 62, _ => exact ⟨tin_5 _ (List.mem_of_getElem? (i := 178) rfl), rfl⟩
    | 63, _ => exact ⟨tin_5 _ (List.mem_of_getElem? (i := 180) rfl), rfl⟩
    | 64, _ => exact ⟨tin_5 _ (List.mem_of_getElem? (i := 182) rfl), rfl⟩
    | 65, _ => exact ⟨tin_5 _ (List.mem_of_getElem? (i := 184) rfl), rfl⟩
    | 66, _ => exact ⟨tin_5 _ (List.mem_of_getElem? (i := 186) rfl), rfl⟩
    | 67, _ => exact ⟨tin_5 _ (List.mem_of_getElem? (i := 188) rfl), rfl⟩
    | 68, _ => exact ⟨tin_5 _ (List.mem_of_getElem? (i := 190) rfl), rfl⟩
    | 69, _ => exact ⟨tin_5 _ (List.mem_of_getElem? (i := 192) rfl), rfl⟩
    | k + 70, h => exact absurd h (by omega)
  exact memT (key k hk).1 (key k hk).2
theorem newX11 : Cond.instantiable RX11 70 ∈ tblG ∧ Cond.initialized RX11 ∈ tblG := ⟨memT (tin_4 _ (List.mem_of_getElem? (i := 219) rfl)) rfl, memT (tin_1 _ (List.mem_of_getElem? (i := 12) rfl)) rfl⟩
theorem arr_int : Cond.arrayClass .int ∈ lw_tbl := tin_1 _ (List.mem_of_getElem? (i := 58) rfl)
theorem arr_long : Cond.arrayClass .long ∈ lw_tbl := tin_1 _ (List.mem_of_getElem? (i := 215) rfl)
theorem arr_boolean : Cond.arrayClass .boolean ∈ lw_tbl := tin_5 _ (List.mem_of_getElem? (i := 195) rfl)
theorem arr_byte : Cond.arrayClass .byte ∈ lw_tbl := tin_1 _ (List.mem_of_getElem? (i := 170) rfl)
theorem over_int : Cond.arrayOver (.array .int) ∈ lw_tbl := tin_1 _ (List.mem_of_getElem? (i := 223) rfl)
theorem over_long : Cond.arrayOver (.array .long) ∈ lw_tbl := tin_1 _ (List.mem_of_getElem? (i := 201) rfl)
def Fld (ci j tag : Nat) (ty : FieldType) (q : String × String × String × Bool) : Prop := ∃ (C : String) (T : u_T) (N : Nat), vwCl[ci]? = some (C, T, N) ∧ j < N ∧ (fk ci)[j]? = some tag ∧ T j = q ∧ parseFieldDescriptor q.2.2.1 = some ty
theorem fX0_0 : Fld 0 0 1 (.array .int) ("AskedIn$Acts", "begun", "[I", true) := ⟨RX0, TX0, 5, rfl, by decide, rfl, rfl, by decide +kernel⟩
theorem fX0_1 : Fld 0 1 0 .int ("AskedIn$Acts", "ran", "I", false) := ⟨RX0, TX0, 5, rfl, by decide, rfl, rfl, by decide +kernel⟩
theorem fX0_2 : Fld 0 2 0 .int ("AskedIn$Acts", "number", "I", false) := ⟨RX0, TX0, 5, rfl, by decide, rfl, rfl, by decide +kernel⟩
theorem fX0_3 : Fld 0 3 0 .int ("AskedIn$Acts", "kind", "I", false) := ⟨RX0, TX0, 5, rfl, by decide, rfl, rfl, by decide +kernel⟩
theorem fX0_4 : Fld 0 4 0 .int ("AskedIn$Acts", "v", "I", false) := ⟨RX0, TX0, 5, rfl, by decide, rfl, rfl, by decide +kernel⟩
theorem fX1_0 : Fld 1 0 1 (.object "AskedIn$Street") ("AskedIn$Night", "street", "LAskedIn$Street;", true) := ⟨RX1, TX1, 10, rfl, by decide, rfl, rfl, by decide +kernel⟩
theorem fX1_1 : Fld 1 1 1 (.object "AskedIn$Towns") ("AskedIn$Night", "towns", "LAskedIn$Towns;", true) := ⟨RX1, TX1, 10, rfl, by decide, rfl, rfl, by decide +kernel⟩
theorem fX1_2 : Fld 1 2 1 (.array .int) ("AskedIn$Night", "fars", "[I", true) := ⟨RX1, TX1, 10, rfl, by decide, rfl, rfl, by decide +kernel⟩
theorem fX1_3 : Fld 1 3 1 (.array .int) ("AskedIn$Night", "countings", "[I", true) := ⟨RX1, TX1, 10, rfl, by decide, rfl, rfl, by decide +kernel⟩
theorem fX1_4 : Fld 1 4 0 .int ("AskedIn$Night", "one", "I", false) := ⟨RX1, TX1, 10, rfl, by decide, rfl, rfl, by decide +kernel⟩
theorem fX1_5 : Fld 1 5 0 .int ("AskedIn$Night", "place", "I", false) := ⟨RX1, TX1, 10, rfl, by decide, rfl, rfl, by decide +kernel⟩
theorem fX1_6 : Fld 1 6 0 .int ("AskedIn$Night", "counted", "I", false) := ⟨RX1, TX1, 10, rfl, by decide, rfl, rfl, by decide +kernel⟩
theorem fX1_7 : Fld 1 7 0 .int ("AskedIn$Night", "minute", "I", false) := ⟨RX1, TX1, 10, rfl, by decide, rfl, rfl, by decide +kernel⟩
theorem fX1_8 : Fld 1 8 0 .int ("AskedIn$Night", "coins", "I", false) := ⟨RX1, TX1, 10, rfl, by decide, rfl, rfl, by decide +kernel⟩
theorem fX1_9 : Fld 1 9 0 .int ("AskedIn$Night", "in", "I", false) := ⟨RX1, TX1, 10, rfl, by decide, rfl, rfl, by decide +kernel⟩
theorem fX2_0 : Fld 2 0 1 (.object "AskedIn$Street") ("AskedIn$Questions", "street", "LAskedIn$Street;", true) := ⟨RX2, TX2, 4, rfl, by decide, rfl, rfl, by decide +kernel⟩
theorem fX2_1 : Fld 2 1 1 (.object "AskedIn$Towns") ("AskedIn$Questions", "towns", "LAskedIn$Towns;", true) := ⟨RX2, TX2, 4, rfl, by decide, rfl, rfl, by decide +kernel⟩
theorem fX2_2 : Fld 2 2 1 (.object "AskedIn$Night") ("AskedIn$Questions", "night", "LAskedIn$Night;", true) := ⟨RX2, TX2, 4, rfl, by decide, rfl, rfl, by decide +kernel⟩
theorem fX2_3 : Fld 2 3 1 (.object "AskedIn$Round") ("AskedIn$Questions", "best", "LAskedIn$Round;", true) := ⟨RX2, TX2, 4, rfl, by decide, rfl, rfl, by decide +kernel⟩
theorem fX3_0 : Fld 3 0 1 (.array .int) ("AskedIn$Round", "row", "[I", true) := ⟨RX3, TX3, 5, rfl, by decide, rfl, rfl, by decide +kernel⟩
theorem fX3_1 : Fld 3 1 1 (.array .int) ("AskedIn$Round", "order", "[I", true) := ⟨RX3, TX3, 5, rfl, by decide, rfl, rfl, by decide +kernel⟩
theorem fX3_2 : Fld 3 2 0 .int ("AskedIn$Round", "size", "I", false) := ⟨RX3, TX3, 5, rfl, by decide, rfl, rfl, by decide +kernel⟩
theorem fX3_3 : Fld 3 3 0 .int ("AskedIn$Round", "ins", "I", false) := ⟨RX3, TX3, 5, rfl, by decide, rfl, rfl, by decide +kernel⟩
theorem fX3_4 : Fld 3 4 0 .int ("AskedIn$Round", "minute", "I", false) := ⟨RX3, TX3, 5, rfl, by decide, rfl, rfl, by decide +kernel⟩
theorem fX4_0 : Fld 4 0 1 (.array .int) ("AskedIn$Rows", "firsts", "[I", true) := ⟨RX4, TX4, 3, rfl, by decide, rfl, rfl, by decide +kernel⟩
theorem fX4_1 : Fld 4 1 1 (.array .int) ("AskedIn$Rows", "seconds", "[I", true) := ⟨RX4, TX4, 3, rfl, by decide, rfl, rfl, by decide +kernel⟩
theorem fX4_2 : Fld 4 2 0 .int ("AskedIn$Rows", "size", "I", false) := ⟨RX4, TX4, 3, rfl, by decide, rfl, rfl, by decide +kernel⟩
theorem fX5_0 : Fld 5 0 0 .int ("AskedIn$Street", "houses", "I", false) := ⟨RX5, TX5, 14, rfl, by decide, rfl, rfl, by decide +kernel⟩
theorem fX5_1 : Fld 5 1 1 (.array .int) ("AskedIn$Street", "kinds", "[I", true) := ⟨RX5, TX5, 14, rfl, by decide, rfl, rfl, by decide +kernel⟩
theorem fX5_2 : Fld 5 2 1 (.array .int) ("AskedIn$Street", "numbers", "[I", true) := ⟨RX5, TX5, 14, rfl, by decide, rfl, rfl, by decide +kernel⟩
theorem fX5_3 : Fld 5 3 1 (.array .int) ("AskedIn$Street", "grains", "[I", true) := ⟨RX5, TX5, 14, rfl, by decide, rfl, rfl, by decide +kernel⟩
theorem fX5_4 : Fld 5 4 1 (.array .int) ("AskedIn$Street", "asked", "[I", true) := ⟨RX5, TX5, 14, rfl, by decide, rfl, rfl, by decide +kernel⟩
theorem fX5_5 : Fld 5 5 1 (.array .int) ("AskedIn$Street", "rows", "[I", true) := ⟨RX5, TX5, 14, rfl, by decide, rfl, rfl, by decide +kernel⟩
theorem fX5_6 : Fld 5 6 0 .int ("AskedIn$Street", "folks", "I", false) := ⟨RX5, TX5, 14, rfl, by decide, rfl, rfl, by decide +kernel⟩
theorem fX5_7 : Fld 5 7 1 (.array .int) ("AskedIn$Street", "sacks", "[I", true) := ⟨RX5, TX5, 14, rfl, by decide, rfl, rfl, by decide +kernel⟩
theorem fX5_8 : Fld 5 8 1 (.array .int) ("AskedIn$Street", "purses", "[I", true) := ⟨RX5, TX5, 14, rfl, by decide, rfl, rfl, by decide +kernel⟩
theorem fX5_9 : Fld 5 9 1 (.array .int) ("AskedIn$Street", "quicknesses", "[I", true) := ⟨RX5, TX5, 14, rfl, by decide, rfl, rfl, by decide +kernel⟩
theorem fX5_10 : Fld 5 10 1 (.object "AskedIn$Rows") ("AskedIn$Street", "plan", "LAskedIn$Rows;", true) := ⟨RX5, TX5, 14, rfl, by decide, rfl, rfl, by decide +kernel⟩
theorem fX5_11 : Fld 5 11 1 (.object "AskedIn$Rows") ("AskedIn$Street", "watched", "LAskedIn$Rows;", true) := ⟨RX5, TX5, 14, rfl, by decide, rfl, rfl, by decide +kernel⟩
theorem fX5_12 : Fld 5 12 1 (.object "AskedIn$Rows") ("AskedIn$Street", "visits", "LAskedIn$Rows;", true) := ⟨RX5, TX5, 14, rfl, by decide, rfl, rfl, by decide +kernel⟩
theorem fX5_13 : Fld 5 13 0 .int ("AskedIn$Street", "held", "I", false) := ⟨RX5, TX5, 14, rfl, by decide, rfl, rfl, by decide +kernel⟩
theorem fX6_0 : Fld 6 0 1 (.array (.array .long)) ("AskedIn$Tapes", "items", "[[J", true) := ⟨RX6, TX6, 3, rfl, by decide, rfl, rfl, by decide +kernel⟩
theorem fX6_1 : Fld 6 1 1 (.array .int) ("AskedIn$Tapes", "sizes", "[I", true) := ⟨RX6, TX6, 3, rfl, by decide, rfl, rfl, by decide +kernel⟩
theorem fX6_2 : Fld 6 2 1 (.array .int) ("AskedIn$Tapes", "sorts", "[I", true) := ⟨RX6, TX6, 3, rfl, by decide, rfl, rfl, by decide +kernel⟩
theorem fX7_0 : Fld 7 0 1 (.array .byte) ("AskedIn$Text", "signs", "[B", true) := ⟨RX7, TX7, 7, rfl, by decide, rfl, rfl, by decide +kernel⟩
theorem fX7_1 : Fld 7 1 0 .int ("AskedIn$Text", "length", "I", false) := ⟨RX7, TX7, 7, rfl, by decide, rfl, rfl, by decide +kernel⟩
theorem fX7_2 : Fld 7 2 0 .int ("AskedIn$Text", "at", "I", false) := ⟨RX7, TX7, 7, rfl, by decide, rfl, rfl, by decide +kernel⟩
theorem fX7_3 : Fld 7 3 0 .int ("AskedIn$Text", "fault", "I", false) := ⟨RX7, TX7, 7, rfl, by decide, rfl, rfl, by decide +kernel⟩
theorem fX7_4 : Fld 7 4 1 (.array .int) ("AskedIn$Text", "tokens", "[I", false) := ⟨RX7, TX7, 7, rfl, by decide, rfl, rfl, by decide +kernel⟩
theorem fX7_5 : Fld 7 5 0 .int ("AskedIn$Text", "noted", "I", false) := ⟨RX7, TX7, 7, rfl, by decide, rfl, rfl, by decide +kernel⟩
theorem fX7_6 : Fld 7 6 0 .int ("AskedIn$Text", "dawn", "I", false) := ⟨RX7, TX7, 7, rfl, by decide, rfl, rfl, by decide +kernel⟩
theorem fX9_0 : Fld 8 0 1 (.array (.array .int)) ("AskedIn$Towns", "tokens", "[[I", true) := ⟨RX9, TX9, 7, rfl, by decide, rfl, rfl, by decide +kernel⟩
theorem fX9_1 : Fld 8 1 1 (.array .int) ("AskedIn$Towns", "lengths", "[I", true) := ⟨RX9, TX9, 7, rfl, by decide, rfl, rfl, by decide +kernel⟩
theorem fX9_2 : Fld 8 2 1 (.array .int) ("AskedIn$Towns", "dawns", "[I", true) := ⟨RX9, TX9, 7, rfl, by decide, rfl, rfl, by decide +kernel⟩
theorem fX9_3 : Fld 8 3 0 .int ("AskedIn$Towns", "size", "I", false) := ⟨RX9, TX9, 7, rfl, by decide, rfl, rfl, by decide +kernel⟩
theorem fX9_4 : Fld 8 4 1 (.array .int) ("AskedIn$Towns", "letters", "[I", true) := ⟨RX9, TX9, 7, rfl, by decide, rfl, rfl, by decide +kernel⟩
theorem fX9_5 : Fld 8 5 0 .int ("AskedIn$Towns", "slow", "I", false) := ⟨RX9, TX9, 7, rfl, by decide, rfl, rfl, by decide +kernel⟩
theorem fX9_6 : Fld 8 6 0 .int ("AskedIn$Towns", "far", "I", false) := ⟨RX9, TX9, 7, rfl, by decide, rfl, rfl, by decide +kernel⟩
theorem fX10_0 : Fld 9 0 1 (.object "AskedIn$Street") ("AskedIn", "now", "LAskedIn$Street;", true) := ⟨RX10, TX10, 8, rfl, by decide, rfl, rfl, by decide +kernel⟩
theorem fX10_1 : Fld 9 1 1 (.object "AskedIn$Street") ("AskedIn", "kept", "LAskedIn$Street;", true) := ⟨RX10, TX10, 8, rfl, by decide, rfl, rfl, by decide +kernel⟩
theorem fX10_2 : Fld 9 2 2 .boolean ("AskedIn", "hasImage", "Z", false) := ⟨RX10, TX10, 8, rfl, by decide, rfl, rfl, by decide +kernel⟩
theorem fX10_3 : Fld 9 3 1 (.object "AskedIn$Text") ("AskedIn", "text", "LAskedIn$Text;", true) := ⟨RX10, TX10, 8, rfl, by decide, rfl, rfl, by decide +kernel⟩
theorem fX10_4 : Fld 9 4 1 (.object "AskedIn$Towns") ("AskedIn", "towns", "LAskedIn$Towns;", true) := ⟨RX10, TX10, 8, rfl, by decide, rfl, rfl, by decide +kernel⟩
theorem fX10_5 : Fld 9 5 1 (.object "AskedIn$Questions") ("AskedIn", "questions", "LAskedIn$Questions;", true) := ⟨RX10, TX10, 8, rfl, by decide, rfl, rfl, by decide +kernel⟩
theorem fX10_6 : Fld 9 6 1 (.object "AskedIn$Acts") ("AskedIn", "acts", "LAskedIn$Acts;", true) := ⟨RX10, TX10, 8, rfl, by decide, rfl, rfl, by decide +kernel⟩
theorem fX10_7 : Fld 9 7 1 (.object "AskedIn$Tapes") ("AskedIn", "tapes", "LAskedIn$Tapes;", true) := ⟨RX10, TX10, 8, rfl, by decide, rfl, rfl, by decide +kernel⟩
theorem fX11_0 : Fld 10 0 0 .int ("AskedInModel", "houses", "I", false) := ⟨RX11, TX11, 70, rfl, by decide, rfl, rfl, by decide +kernel⟩
theorem fX11_1 : Fld 10 1 0 .int ("AskedInModel", "folks", "I", false) := ⟨RX11, TX11, 70, rfl, by decide, rfl, rfl, by decide +kernel⟩
theorem fX11_2 : Fld 10 2 1 (.array .int) ("AskedInModel", "kind", "[I", true) := ⟨RX11, TX11, 70, rfl, by decide, rfl, rfl, by decide +kernel⟩
theorem fX11_3 : Fld 10 3 1 (.array .int) ("AskedInModel", "v", "[I", true) := ⟨RX11, TX11, 70, rfl, by decide, rfl, rfl, by decide +kernel⟩
theorem fX11_4 : Fld 10 4 1 (.array .int) ("AskedInModel", "grain", "[I", true) := ⟨RX11, TX11, 70, rfl, by decide, rfl, rfl, by decide +kernel⟩
theorem fX11_5 : Fld 10 5 1 (.array .int) ("AskedInModel", "asked", "[I", true) := ⟨RX11, TX11, 70, rfl, by decide, rfl, rfl, by decide +kernel⟩
theorem fX11_6 : Fld 10 6 1 (.array .int) ("AskedInModel", "rows", "[I", true) := ⟨RX11, TX11, 70, rfl, by decide, rfl, rfl, by decide +kernel⟩
theorem fX11_7 : Fld 10 7 1 (.array .int) ("AskedInModel", "sack", "[I", true) := ⟨RX11, TX11, 70, rfl, by decide, rfl, rfl, by decide +kernel⟩
theorem fX11_8 : Fld 10 8 1 (.array .int) ("AskedInModel", "coins", "[I", true) := ⟨RX11, TX11, 70, rfl, by decide, rfl, rfl, by decide +kernel⟩
theorem fX11_9 : Fld 10 9 1 (.array .int) ("AskedInModel", "quick", "[I", true) := ⟨RX11, TX11, 70, rfl, by decide, rfl, rfl, by decide +kernel⟩
theorem fX11_10 : Fld 10 10 0 .int ("AskedInModel", "towns", "I", false) := ⟨RX11, TX11, 70, rfl, by decide, rfl, rfl, by decide +kernel⟩
theorem fX11_11 : Fld 10 11 0 .int ("AskedInModel", "the", "I", false) := ⟨RX11, TX11, 70, rfl, by decide, rfl, rfl, by decide +kernel⟩
theorem fX11_12 : Fld 10 12 0 .int ("AskedInModel", "fed", "I", false) := ⟨RX11, TX11, 70, rfl, by decide, rfl, rfl, by decide +kernel⟩
theorem fX11_13 : Fld 10 13 0 .int ("AskedInModel", "at", "I", false) := ⟨RX11, TX11, 70, rfl, by decide, rfl, rfl, by decide +kernel⟩
theorem fX11_14 : Fld 10 14 0 .int ("AskedInModel", "digits", "I", false) := ⟨RX11, TX11, 70, rfl, by decide, rfl, rfl, by decide +kernel⟩
theorem fX11_15 : Fld 10 15 1 (.array .int) ("AskedInModel", "text", "[I", true) := ⟨RX11, TX11, 70, rfl, by decide, rfl, rfl, by decide +kernel⟩
theorem fX11_16 : Fld 10 16 1 (.array .int) ("AskedInModel", "clauses", "[I", true) := ⟨RX11, TX11, 70, rfl, by decide, rfl, rfl, by decide +kernel⟩
theorem fX11_17 : Fld 10 17 1 (.array .int) ("AskedInModel", "word", "[I", true) := ⟨RX11, TX11, 70, rfl, by decide, rfl, rfl, by decide +kernel⟩
theorem fX11_18 : Fld 10 18 1 (.array .int) ("AskedInModel", "number", "[I", true) := ⟨RX11, TX11, 70, rfl, by decide, rfl, rfl, by decide +kernel⟩
theorem fX11_19 : Fld 10 19 1 (.array .int) ("AskedInModel", "from", "[I", true) := ⟨RX11, TX11, 70, rfl, by decide, rfl, rfl, by decide +kernel⟩
theorem fX11_20 : Fld 10 20 1 (.array .int) ("AskedInModel", "to", "[I", true) := ⟨RX11, TX11, 70, rfl, by decide, rfl, rfl, by decide +kernel⟩
theorem fX11_21 : Fld 10 21 1 (.array .int) ("AskedInModel", "sign", "[I", true) := ⟨RX11, TX11, 70, rfl, by decide, rfl, rfl, by decide +kernel⟩
theorem fX11_22 : Fld 10 22 1 (.array .int) ("AskedInModel", "waits", "[I", true) := ⟨RX11, TX11, 70, rfl, by decide, rfl, rfl, by decide +kernel⟩
theorem fX11_23 : Fld 10 23 0 .int ("AskedInModel", "signs", "I", false) := ⟨RX11, TX11, 70, rfl, by decide, rfl, rfl, by decide +kernel⟩
theorem fX11_24 : Fld 10 24 0 .int ("AskedInModel", "waiting", "I", false) := ⟨RX11, TX11, 70, rfl, by decide, rfl, rfl, by decide +kernel⟩
theorem fX11_25 : Fld 10 25 0 .int ("AskedInModel", "open", "I", false) := ⟨RX11, TX11, 70, rfl, by decide, rfl, rfl, by decide +kernel⟩
theorem fX11_26 : Fld 10 26 1 (.array .int) ("AskedInModel", "letters", "[I", true) := ⟨RX11, TX11, 70, rfl, by decide, rfl, rfl, by decide +kernel⟩
theorem fX11_27 : Fld 10 27 1 (.array .boolean) ("AskedInModel", "pile", "[Z", true) := ⟨RX11, TX11, 70, rfl, by decide, rfl, rfl, by decide +kernel⟩
theorem fX11_28 : Fld 10 28 0 .int ("AskedInModel", "whose", "I", false) := ⟨RX11, TX11, 70, rfl, by decide, rfl, rfl, by decide +kernel⟩
theorem fX11_29 : Fld 10 29 0 .int ("AskedInModel", "minute", "I", false) := ⟨RX11, TX11, 70, rfl, by decide, rfl, rfl, by decide +kernel⟩
theorem fX11_30 : Fld 10 30 0 .int ("AskedInModel", "stands", "I", false) := ⟨RX11, TX11, 70, rfl, by decide, rfl, rfl, by decide +kernel⟩
theorem fX11_31 : Fld 10 31 0 .int ("AskedInModel", "purse", "I", false) := ⟨RX11, TX11, 70, rfl, by decide, rfl, rfl, by decide +kernel⟩
theorem fX11_32 : Fld 10 32 0 .int ("AskedInModel", "been", "I", false) := ⟨RX11, TX11, 70, rfl, by decide, rfl, rfl, by decide +kernel⟩
theorem fX11_33 : Fld 10 33 0 .int ("AskedInModel", "inside", "I", false) := ⟨RX11, TX11, 70, rfl, by decide, rfl, rfl, by decide +kernel⟩
theorem fX11_34 : Fld 10 34 0 .int ("AskedInModel", "ways", "I", false) := ⟨RX11, TX11, 70, rfl, by decide, rfl, rfl, by decide +kernel⟩
theorem fX11_35 : Fld 10 35 1 (.array .int) ("AskedInModel", "way", "[I", true) := ⟨RX11, TX11, 70, rfl, by decide, rfl, rfl, by decide +kernel⟩
theorem fX11_36 : Fld 10 36 1 (.array .int) ("AskedInModel", "order", "[I", true) := ⟨RX11, TX11, 70, rfl, by decide, rfl, rfl, by decide +kernel⟩
theorem fX11_37 : Fld 10 37 1 (.array .int) ("AskedInModel", "bestOrder", "[I", true) := ⟨RX11, TX11, 70, rfl, by decide, rfl, rfl, by decide +kernel⟩
theorem fX11_38 : Fld 10 38 0 .int ("AskedInModel", "watched", "I", false) := ⟨RX11, TX11, 70, rfl, by decide, rfl, rfl, by decide +kernel⟩
theorem fX11_39 : Fld 10 39 1 (.array .int) ("AskedInModel", "watchHouse", "[I", true) := ⟨RX11, TX11, 70, rfl, by decide, rfl, rfl, by decide +kernel⟩
theorem fX11_40 : Fld 10 40 1 (.array .boolean) ("AskedInModel", "watchIn", "[Z", true) := ⟨RX11, TX11, 70, rfl, by decide, rfl, rfl, by decide +kernel⟩
theorem fX11_41 : Fld 10 41 0 .int ("AskedInModel", "books", "I", false) := ⟨RX11, TX11, 70, rfl, by decide, rfl, rfl, by decide +kernel⟩
theorem fX11_42 : Fld 10 42 1 (.array .int) ("AskedInModel", "bookFolk", "[I", true) := ⟨RX11, TX11, 70, rfl, by decide, rfl, rfl, by decide +kernel⟩
theorem fX11_43 : Fld 10 43 1 (.array .int) ("AskedInModel", "bookHouse", "[I", true) := ⟨RX11, TX11, 70, rfl, by decide, rfl, rfl, by decide +kernel⟩
theorem fX11_44 : Fld 10 44 2 .boolean ("AskedInModel", "hasImage", "Z", false) := ⟨RX11, TX11, 70, rfl, by decide, rfl, rfl, by decide +kernel⟩
theorem fX11_45 : Fld 10 45 0 .int ("AskedInModel", "imageThe", "I", false) := ⟨RX11, TX11, 70, rfl, by decide, rfl, rfl, by decide +kernel⟩
theorem fX11_46 : Fld 10 46 0 .int ("AskedInModel", "imageHouses", "I", false) := ⟨RX11, TX11, 70, rfl, by decide, rfl, rfl, by decide +kernel⟩
theorem fX11_47 : Fld 10 47 0 .int ("AskedInModel", "imageFolks", "I", false) := ⟨RX11, TX11, 70, rfl, by decide, rfl, rfl, by decide +kernel⟩
theorem fX11_48 : Fld 10 48 0 .int ("AskedInModel", "imageWays", "I", false) := ⟨RX11, TX11, 70, rfl, by decide, rfl, rfl, by decide +kernel⟩
theorem fX11_49 : Fld 10 49 0 .int ("AskedInModel", "imageWatched", "I", false) := ⟨RX11, TX11, 70, rfl, by decide, rfl, rfl, by decide +kernel⟩
theorem fX11_50 : Fld 10 50 0 .int ("AskedInModel", "imageBooks", "I", false) := ⟨RX11, TX11, 70, rfl, by decide, rfl, rfl, by decide +kernel⟩
theorem fX11_51 : Fld 10 51 1 (.array .int) ("AskedInModel", "imageKind", "[I", true) := ⟨RX11, TX11, 70, rfl, by decide, rfl, rfl, by decide +kernel⟩
theorem fX11_52 : Fld 10 52 1 (.array .int) ("AskedInModel", "imageV", "[I", true) := ⟨RX11, TX11, 70, rfl, by decide, rfl, rfl, by decide +kernel⟩
theorem fX11_53 : Fld 10 53 1 (.array .int) ("AskedInModel", "imageGrain", "[I", true) := ⟨RX11, TX11, 70, rfl, by decide, rfl, rfl, by decide +kernel⟩
theorem fX11_54 : Fld 10 54 1 (.array .int) ("AskedInModel", "imageAsked", "[I", true) := ⟨RX11, TX11, 70, rfl, by decide, rfl, rfl, by decide +kernel⟩
theorem fX11_55 : Fld 10 55 1 (.array .int) ("AskedInModel", "imageRows", "[I", true) := ⟨RX11, TX11, 70, rfl, by decide, rfl, rfl, by decide +kernel⟩
theorem fX11_56 : Fld 10 56 1 (.array .int) ("AskedInModel", "imageSack", "[I", true) := ⟨RX11, TX11, 70, rfl, by decide, rfl, rfl, by decide +kernel⟩
theorem fX11_57 : Fld 10 57 1 (.array .int) ("AskedInModel", "imageCoins", "[I", true) := ⟨RX11, TX11, 70, rfl, by decide, rfl, rfl, by decide +kernel⟩
theorem fX11_58 : Fld 10 58 1 (.array .int) ("AskedInModel", "imageQuick", "[I", true) := ⟨RX11, TX11, 70, rfl, by decide, rfl, rfl, by decide +kernel⟩
theorem fX11_59 : Fld 10 59 1 (.array .int) ("AskedInModel", "imageWay", "[I", true) := ⟨RX11, TX11, 70, rfl, by decide, rfl, rfl, by decide +kernel⟩
theorem fX11_60 : Fld 10 60 1 (.array .int) ("AskedInModel", "imageWatch", "[I", true) := ⟨RX11, TX11, 70, rfl, by decide, rfl, rfl, by decide +kernel⟩
theorem fX11_61 : Fld 10 61 1 (.array .int) ("AskedInModel", "imageFolk", "[I", true) := ⟨RX11, TX11, 70, rfl, by decide, rfl, rfl, by decide +kernel⟩
theorem fX11_62 : Fld 10 62 1 (.array .int) ("AskedInModel", "imageHouse", "[I", true) := ⟨RX11, TX11, 70, rfl, by decide, rfl, rfl, by decide +kernel⟩
theorem fX11_63 : Fld 10 63 1 (.array .boolean) ("AskedInModel", "imageIn", "[Z", true) := ⟨RX11, TX11, 70, rfl, by decide, rfl, rfl, by decide +kernel⟩
theorem fX11_64 : Fld 10 64 0 .int ("AskedInModel", "ran", "I", false) := ⟨RX11, TX11, 70, rfl, by decide, rfl, rfl, by decide +kernel⟩
theorem fX11_65 : Fld 10 65 1 (.array .int) ("AskedInModel", "bodies", "[I", true) := ⟨RX11, TX11, 70, rfl, by decide, rfl, rfl, by decide +kernel⟩
theorem fX11_66 : Fld 10 66 1 (.array .int) ("AskedInModel", "sort", "[I", true) := ⟨RX11, TX11, 70, rfl, by decide, rfl, rfl, by decide +kernel⟩
theorem fX11_67 : Fld 10 67 1 (.array .int) ("AskedInModel", "length", "[I", true) := ⟨RX11, TX11, 70, rfl, by decide, rfl, rfl, by decide +kernel⟩
theorem fX11_68 : Fld 10 68 1 (.array .long) ("AskedInModel", "item", "[J", true) := ⟨RX11, TX11, 70, rfl, by decide, rfl, rfl, by decide +kernel⟩
theorem fX11_69 : Fld 10 69 1 (.array .long) ("AskedInModel", "aside", "[J", true) := ⟨RX11, TX11, 70, rfl, by decide, rfl, rfl, by decide +kernel⟩
