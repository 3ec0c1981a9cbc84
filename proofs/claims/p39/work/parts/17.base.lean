/-- where the references of the made cells point: the cell, and 1 more; 0: null -/
def refL : List (List Nat) := [[34, 2, 0, 20, 52, 63, 22, 24], [0, 3, 4, 5, 6, 7, 0, 8, 9, 10, 11, 14, 17], [], [], [], [], [], [], [], [], [12, 13], [], [], [15, 16], [], [], [18, 19], [], [], [21], [], [23], [], [25, 32, 33], [26, 27, 28, 29, 30, 31], [], [], [], [], [], [], [], [], [0, 35, 36, 37, 38, 39, 0, 40, 41, 42, 43, 46, 49], [], [], [], [], [], [], [], [], [44, 45], [], [], [47, 48], [], [], [50, 51], [], [], [53, 60, 61, 0, 62], [54, 55, 56, 57, 58, 59], [], [], [], [], [], [], [], [], [], [34, 52, 67, 64], [65, 66], [], [], [34, 52, 68, 69], [], [], [0, 0, 71, 72, 73, 74, 75, 76, 77, 78, 0, 0, 0, 0, 0, 79, 80, 81, 82, 83, 84, 85, 86, 0, 0, 0, 87, 88, 0, 0, 0, 0, 0, 0, 0, 89, 90, 91, 0, 92, 93, 0, 94, 95, 0, 0, 0, 0, 0, 0, 0, 96, 97, 98, 99, 100, 101, 102, 103, 104, 105, 106, 107, 108, 0, 109, 110, 111, 112, 113], [], [], [], [], [], [], [], [], [], [], [], [], [], [], [], [], [], [], [], [], [], [], [], [], [], [], [], [], [], [], [], [], [], [], [], [], [], [], [], [], [], [], []]
def refF (a b : Nat) : Nat := (refL.getD a []).getD b 0
/-- the text's row of tokens is t (a cell, and 1 more; 0: null) -/
def ρT (t : Nat) : Nat → Nat → Nat := fun a b => if a = 19 ∧ b = 4 then t else refF a b
theorem ρT_upr (t v : Nat) : upr (ρT t) 19 4 (v + 1) = ρT (v + 1) := by
  funext a b
  unfold upr ρT
  by_cases h : a = 19 ∧ b = 4
  · rw [if_pos h, if_pos h]
  · rw [if_neg h, if_neg h, if_neg h]
theorem up_same {σ : Nat → Int → Int} {k : Nat} {j x : Int} : up σ k j x k j = x := by simp [up]
theorem up_cell {σ : Nat → Int → Int} {k k' : Nat} {j j' x : Int} (h : k' ≠ k) : up σ k j x k' j' = σ k' j' := by simp [up, h]
theorem up_slot {σ : Nat → Int → Int} {k k' : Nat} {j j' x : Int} (h : j' ≠ j) : up σ k j x k' j' = σ k' j' := by simp [up, h]
theorem up_if {σ : Nat → Int → Int} {k : Nat} {j j' x : Int} : up σ k j x k j' = if j' = j then x else σ k j' := by simp [up]
theorem leL_0 {b : List (Option Value)} : leL [] b := trivial
theorem leL_s {v : Value} {a b : List (Option Value)} (h : leL a b) : leL (some v :: a) (some v :: b) := ⟨rfl, h⟩
theorem leL_n {w : Option Value} {a b : List (Option Value)} (h : leL a b) : leL (none :: a) (w :: b) := h
/-- nothing outside the cells and fields that F tells has changed -/
def Fr (F : Nat → Int → Bool) (σ σ' : Nat → Int → Int) : Prop := ∀ k j, F k j = false → σ' k j = σ k j
theorem Fr.rf {F : Nat → Int → Bool} {σ : Nat → Int → Int} : Fr F σ σ := fun _ _ _ => rfl
theorem Fr.tr {F : Nat → Int → Bool} {a b c : Nat → Int → Int} (h : Fr F a b) (h' : Fr F b c) : Fr F a c := fun k j q => (h' k j q).trans (h k j q)
theorem Fr.up {F : Nat → Int → Bool} {a b : Nat → Int → Int} {k : Nat} {j x : Int} (h : Fr F a b) (hF : F k j = true) : Fr F a (up b k j x) := fun k' j' q => by
  by_cases e : k' = k ∧ j' = j
  · rw [e.1, e.2, hF] at q; cases q
  · rw [show _root_.Jvm.Pilot.@@N@@.up b k j x k' j' = b k' j' from if_neg e]
    exact h k' j' q
theorem Fr.mono {F F' : Nat → Int → Bool} {a b : Nat → Int → Int} (h : Fr F a b) (hF : ∀ k j, F' k j = false → F k j = false) : Fr F' a b := fun k j q => h k j (hF k j q)
theorem nm_max : NM Lib.Math.max.name Lib.Math.max.code 2 := ⟨memT (tin_1 _ (List.mem_of_getElem? (i := 42) rfl)) rfl, memT (tin_1 _ (List.mem_of_getElem? (i := 4) rfl)) rfl, memT (tin_1 _ (List.mem_of_getElem? (i := 43) rfl)) rfl⟩
theorem nm_min : NM Lib.Math.min.name Lib.Math.min.code 2 := ⟨memT (tin_3 _ (List.mem_of_getElem? (i := 73) rfl)) rfl, memT (tin_1 _ (List.mem_of_getElem? (i := 4) rfl)) rfl, memT (tin_3 _ (List.mem_of_getElem? (i := 74) rfl)) rfl⟩
theorem nm_abs : NM Lib.Math.abs.name Lib.Math.abs.code 1 := ⟨memT (tin_3 _ (List.mem_of_getElem? (i := 166) rfl)) rfl, memT (tin_1 _ (List.mem_of_getElem? (i := 4) rfl)) rfl, memT (tin_3 _ (List.mem_of_getElem? (i := 167) rfl)) rfl⟩
theorem oi_1 : Cond.instanceMethod objectInit ∈ tblG := memT (tin_1 _ (List.mem_of_getElem? (i := 27) rfl)) rfl
theorem oi_2 : Cond.code objectInit ⟨#[0xb1]⟩ 1 none ∈ tblG := memT (tin_1 _ (List.mem_of_getElem? (i := 28) rfl)) rfl
theorem koX10_3 : Cond.methodLink RX10 3 objectInit ∈ tblG := memT (tin_1 _ (List.mem_of_getElem? (i := 26) rfl)) rfl
theorem koX5_3 : Cond.methodLink RX5 3 objectInit ∈ tblG := memT (tin_1 _ (List.mem_of_getElem? (i := 34) rfl)) rfl
theorem koX4_3 : Cond.methodLink RX4 3 objectInit ∈ tblG := memT (tin_1 _ (List.mem_of_getElem? (i := 40) rfl)) rfl
theorem kmX4_9 : Cond.methodLink RX4 9 Lib.Math.max.name ∈ tblG := memT (tin_1 _ (List.mem_of_getElem? (i := 41) rfl)) rfl
theorem koX7_3 : Cond.methodLink RX7 3 objectInit ∈ tblG := memT (tin_1 _ (List.mem_of_getElem? (i := 143) rfl)) rfl
theorem koX0_3 : Cond.methodLink RX0 3 objectInit ∈ tblG := memT (tin_1 _ (List.mem_of_getElem? (i := 176) rfl)) rfl
theorem koX6_3 : Cond.methodLink RX6 3 objectInit ∈ tblG := memT (tin_1 _ (List.mem_of_getElem? (i := 199) rfl)) rfl
theorem koX9_3 : Cond.methodLink RX9 3 objectInit ∈ tblG := memT (tin_1 _ (List.mem_of_getElem? (i := 221) rfl)) rfl
theorem koX2_3 : Cond.methodLink RX2 3 objectInit ∈ tblG := memT (tin_2 _ (List.mem_of_getElem? (i := 19) rfl)) rfl
theorem koX3_3 : Cond.methodLink RX3 3 objectInit ∈ tblG := memT (tin_2 _ (List.mem_of_getElem? (i := 25) rfl)) rfl
theorem koX1_3 : Cond.methodLink RX1 3 objectInit ∈ tblG := memT (tin_2 _ (List.mem_of_getElem? (i := 53) rfl)) rfl
theorem kmJ1_92 : Cond.methodLink RJ1 92 Lib.Math.max.name ∈ tblG := memT (tin_3 _ (List.mem_of_getElem? (i := 71) rfl)) rfl
theorem kmJ1_38 : Cond.methodLink RJ1 38 Lib.Math.min.name ∈ tblG := memT (tin_3 _ (List.mem_of_getElem? (i := 72) rfl)) rfl
theorem kmJ2_224 : Cond.methodLink RJ2 224 Lib.Math.max.name ∈ tblG := memT (tin_3 _ (List.mem_of_getElem? (i := 81) rfl)) rfl
theorem kmJ2_183 : Cond.methodLink RJ2 183 Lib.Math.min.name ∈ tblG := memT (tin_3 _ (List.mem_of_getElem? (i := 82) rfl)) rfl
theorem kmX1_72 : Cond.methodLink RX1 72 Lib.Math.abs.name ∈ tblG := memT (tin_3 _ (List.mem_of_getElem? (i := 165) rfl)) rfl
theorem cpX3_32 {a : String} {ds : String} {b : ByteArray} {n : Nat} {r : Option FieldType} : CPw (⟨RX3, a, ds⟩, b, n, r) 32 := ⟨memT (tin_3 _ (List.mem_of_getElem? (i := 232) rfl)) rfl, memT (tin_3 _ (List.mem_of_getElem? (i := 234) rfl)) rfl, memT (tin_3 _ (List.mem_of_getElem? (i := 233) rfl)) rfl, memT (tin_1 _ (List.mem_of_getElem? (i := 19) rfl)) rfl⟩
theorem kmX2_104 : Cond.methodLink RX2 104 Lib.Math.min.name ∈ tblG := memT (tin_4 _ (List.mem_of_getElem? (i := 24) rfl)) rfl
theorem kmX2_138 : Cond.methodLink RX2 138 Lib.Math.abs.name ∈ tblG := memT (tin_4 _ (List.mem_of_getElem? (i := 42) rfl)) rfl
theorem kmX2_115 : Cond.methodLink RX2 115 Lib.Math.max.name ∈ tblG := memT (tin_4 _ (List.mem_of_getElem? (i := 43) rfl)) rfl
theorem cpX5_65 {a : String} {ds : String} {b : ByteArray} {n : Nat} {r : Option FieldType} : CPw (⟨RX5, a, ds⟩, b, n, r) 65 := ⟨memT (tin_4 _ (List.mem_of_getElem? (i := 130) rfl)) rfl, memT (tin_3 _ (List.mem_of_getElem? (i := 234) rfl)) rfl, memT (tin_3 _ (List.mem_of_getElem? (i := 233) rfl)) rfl, memT (tin_1 _ (List.mem_of_getElem? (i := 19) rfl)) rfl⟩
theorem kmX4_28 : Cond.methodLink RX4 28 Lib.Math.min.name ∈ tblG := memT (tin_4 _ (List.mem_of_getElem? (i := 135) rfl)) rfl
theorem cpX4_31 {a : String} {ds : String} {b : ByteArray} {n : Nat} {r : Option FieldType} : CPw (⟨RX4, a, ds⟩, b, n, r) 31 := ⟨memT (tin_4 _ (List.mem_of_getElem? (i := 136) rfl)) rfl, memT (tin_3 _ (List.mem_of_getElem? (i := 234) rfl)) rfl, memT (tin_3 _ (List.mem_of_getElem? (i := 233) rfl)) rfl, memT (tin_1 _ (List.mem_of_getElem? (i := 19) rfl)) rfl⟩
theorem kmX0_19 : Cond.methodLink RX0 19 Lib.Math.min.name ∈ tblG := memT (tin_4 _ (List.mem_of_getElem? (i := 178) rfl)) rfl
theorem cpX10_299 {a : String} {ds : String} {b : ByteArray} {n : Nat} {r : Option FieldType} : CPw (⟨RX10, a, ds⟩, b, n, r) 299 := ⟨memT (tin_4 _ (List.mem_of_getElem? (i := 217) rfl)) rfl, memT (tin_3 _ (List.mem_of_getElem? (i := 234) rfl)) rfl, memT (tin_3 _ (List.mem_of_getElem? (i := 233) rfl)) rfl, memT (tin_1 _ (List.mem_of_getElem? (i := 19) rfl)) rfl⟩
theorem koX11_1 : Cond.methodLink RX11 1 objectInit ∈ tblG := memT (tin_4 _ (List.mem_of_getElem? (i := 223) rfl)) rfl
