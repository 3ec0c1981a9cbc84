def ivL : List (Nat × Int × Int × Int × Int) := [(1, 0, 1, 0, 6), (1, 6, 7, 0, 4), (2, 0, 6, 0, 6), (3, 0, 6, 0, 9), (4, 0, 6, 0, 99), (7, 0, 4, 0, 5), (8, 0, 4, 0, 9), (9, 0, 4, 0, 9), (10, 2, 3, 0, 8), (11, 0, 8, 0, 5), (13, 2, 3, 0, 8), (14, 0, 8, 0, 5), (16, 2, 3, 0, 12), (17, 0, 12, 0, 3), (18, 0, 12, 0, 5), (33, 0, 1, 0, 6), (33, 6, 7, 0, 4), (34, 0, 6, 0, 6), (35, 0, 6, 0, 9), (36, 0, 6, 0, 99), (39, 0, 4, 0, 5), (40, 0, 4, 0, 9), (41, 0, 4, 0, 9), (42, 2, 3, 0, 8), (43, 0, 8, 0, 5), (45, 2, 3, 0, 8), (46, 0, 8, 0, 5), (48, 2, 3, 0, 12), (49, 0, 12, 0, 3), (50, 0, 12, 0, 5), (19, 1, 2, 0, 100), (21, 1, 2, 0, 100000000), (31, 0, 6, 0, 60), (32, 0, 6, -1, 4), (51, 3, 4, 0, 6), (59, 0, 6, 0, 100), (67, 0, 6, -9900, 9900), (68, 0, 6, -1000000, 1000000), (65, 0, 5, 0, 5)]
def InvX (σ : Nat → Int → Int) : Prop := ∀ q ∈ ivL, ∀ j, q.2.1 ≤ j → j < q.2.2.1 → q.2.2.2.1 ≤ σ q.1 j ∧ σ q.1 j ≤ q.2.2.2.2
theorem iv1_0 {σ : Nat → Int → Int} (h : InvX σ) (j : Int) (h0 : 0 ≤ j) (h1 : j < 1) : 0 ≤ σ 1 j ∧ σ 1 j ≤ 6 := h (1, 0, 1, 0, 6) (List.mem_of_getElem? (i := 0) rfl) j h0 h1
theorem iv1_6 {σ : Nat → Int → Int} (h : InvX σ) (j : Int) (h0 : 6 ≤ j) (h1 : j < 7) : 0 ≤ σ 1 j ∧ σ 1 j ≤ 4 := h (1, 6, 7, 0, 4) (List.mem_of_getElem? (i := 1) rfl) j h0 h1
theorem iv2_0 {σ : Nat → Int → Int} (h : InvX σ) (j : Int) (h0 : 0 ≤ j) (h1 : j < 6) : 0 ≤ σ 2 j ∧ σ 2 j ≤ 6 := h (2, 0, 6, 0, 6) (List.mem_of_getElem? (i := 2) rfl) j h0 h1
theorem iv3_0 {σ : Nat → Int → Int} (h : InvX σ) (j : Int) (h0 : 0 ≤ j) (h1 : j < 6) : 0 ≤ σ 3 j ∧ σ 3 j ≤ 9 := h (3, 0, 6, 0, 9) (List.mem_of_getElem? (i := 3) rfl) j h0 h1
theorem iv4_0 {σ : Nat → Int → Int} (h : InvX σ) (j : Int) (h0 : 0 ≤ j) (h1 : j < 6) : 0 ≤ σ 4 j ∧ σ 4 j ≤ 99 := h (4, 0, 6, 0, 99) (List.mem_of_getElem? (i := 4) rfl) j h0 h1
theorem iv7_0 {σ : Nat → Int → Int} (h : InvX σ) (j : Int) (h0 : 0 ≤ j) (h1 : j < 4) : 0 ≤ σ 7 j ∧ σ 7 j ≤ 5 := h (7, 0, 4, 0, 5) (List.mem_of_getElem? (i := 5) rfl) j h0 h1
theorem iv8_0 {σ : Nat → Int → Int} (h : InvX σ) (j : Int) (h0 : 0 ≤ j) (h1 : j < 4) : 0 ≤ σ 8 j ∧ σ 8 j ≤ 9 := h (8, 0, 4, 0, 9) (List.mem_of_getElem? (i := 6) rfl) j h0 h1
theorem iv9_0 {σ : Nat → Int → Int} (h : InvX σ) (j : Int) (h0 : 0 ≤ j) (h1 : j < 4) : 0 ≤ σ 9 j ∧ σ 9 j ≤ 9 := h (9, 0, 4, 0, 9) (List.mem_of_getElem? (i := 7) rfl) j h0 h1
theorem iv10_2 {σ : Nat → Int → Int} (h : InvX σ) (j : Int) (h0 : 2 ≤ j) (h1 : j < 3) : 0 ≤ σ 10 j ∧ σ 10 j ≤ 8 := h (10, 2, 3, 0, 8) (List.mem_of_getElem? (i := 8) rfl) j h0 h1
theorem iv11_0 {σ : Nat → Int → Int} (h : InvX σ) (j : Int) (h0 : 0 ≤ j) (h1 : j < 8) : 0 ≤ σ 11 j ∧ σ 11 j ≤ 5 := h (11, 0, 8, 0, 5) (List.mem_of_getElem? (i := 9) rfl) j h0 h1
theorem iv13_2 {σ : Nat → Int → Int} (h : InvX σ) (j : Int) (h0 : 2 ≤ j) (h1 : j < 3) : 0 ≤ σ 13 j ∧ σ 13 j ≤ 8 := h (13, 2, 3, 0, 8) (List.mem_of_getElem? (i := 10) rfl) j h0 h1
theorem iv14_0 {σ : Nat → Int → Int} (h : InvX σ) (j : Int) (h0 : 0 ≤ j) (h1 : j < 8) : 0 ≤ σ 14 j ∧ σ 14 j ≤ 5 := h (14, 0, 8, 0, 5) (List.mem_of_getElem? (i := 11) rfl) j h0 h1
theorem iv16_2 {σ : Nat → Int → Int} (h : InvX σ) (j : Int) (h0 : 2 ≤ j) (h1 : j < 3) : 0 ≤ σ 16 j ∧ σ 16 j ≤ 12 := h (16, 2, 3, 0, 12) (List.mem_of_getElem? (i := 12) rfl) j h0 h1
theorem iv17_0 {σ : Nat → Int → Int} (h : InvX σ) (j : Int) (h0 : 0 ≤ j) (h1 : j < 12) : 0 ≤ σ 17 j ∧ σ 17 j ≤ 3 := h (17, 0, 12, 0, 3) (List.mem_of_getElem? (i := 13) rfl) j h0 h1
theorem iv18_0 {σ : Nat → Int → Int} (h : InvX σ) (j : Int) (h0 : 0 ≤ j) (h1 : j < 12) : 0 ≤ σ 18 j ∧ σ 18 j ≤ 5 := h (18, 0, 12, 0, 5) (List.mem_of_getElem? (i := 14) rfl) j h0 h1
theorem iv33_0 {σ : Nat → Int → Int} (h : InvX σ) (j : Int) (h0 : 0 ≤ j) (h1 : j < 1) : 0 ≤ σ 33 j ∧ σ 33 j ≤ 6 := h (33, 0, 1, 0, 6) (List.mem_of_getElem? (i := 15) rfl) j h0 h1
theorem iv33_6 {σ : Nat → Int → Int} (h : InvX σ) (j : Int) (h0 : 6 ≤ j) (h1 : j < 7) : 0 ≤ σ 33 j ∧ σ 33 j ≤ 4 := h (33, 6, 7, 0, 4) (List.mem_of_getElem? (i := 16) rfl) j h0 h1
theorem iv34_0 {σ : Nat → Int → Int} (h : InvX σ) (j : Int) (h0 : 0 ≤ j) (h1 : j < 6) : 0 ≤ σ 34 j ∧ σ 34 j ≤ 6 := h (34, 0, 6, 0, 6) (List.mem_of_getElem? (i := 17) rfl) j h0 h1
theorem iv35_0 {σ : Nat → Int → Int} (h : InvX σ) (j : Int) (h0 : 0 ≤ j) (h1 : j < 6) : 0 ≤ σ 35 j ∧ σ 35 j ≤ 9 := h (35, 0, 6, 0, 9) (List.mem_of_getElem? (i := 18) rfl) j h0 h1
theorem iv36_0 {σ : Nat → Int → Int} (h : InvX σ) (j : Int) (h0 : 0 ≤ j) (h1 : j < 6) : 0 ≤ σ 36 j ∧ σ 36 j ≤ 99 := h (36, 0, 6, 0, 99) (List.mem_of_getElem? (i := 19) rfl) j h0 h1
theorem iv39_0 {σ : Nat → Int → Int} (h : InvX σ) (j : Int) (h0 : 0 ≤ j) (h1 : j < 4) : 0 ≤ σ 39 j ∧ σ 39 j ≤ 5 := h (39, 0, 4, 0, 5) (List.mem_of_getElem? (i := 20) rfl) j h0 h1
theorem iv40_0 {σ : Nat → Int → Int} (h : InvX σ) (j : Int) (h0 : 0 ≤ j) (h1 : j < 4) : 0 ≤ σ 40 j ∧ σ 40 j ≤ 9 := h (40, 0, 4, 0, 9) (List.mem_of_getElem? (i := 21) rfl) j h0 h1
theorem iv41_0 {σ : Nat → Int → Int} (h : InvX σ) (j : Int) (h0 : 0 ≤ j) (h1 : j < 4) : 0 ≤ σ 41 j ∧ σ 41 j ≤ 9 := h (41, 0, 4, 0, 9) (List.mem_of_getElem? (i := 22) rfl) j h0 h1
theorem iv42_2 {σ : Nat → Int → Int} (h : InvX σ) (j : Int) (h0 : 2 ≤ j) (h1 : j < 3) : 0 ≤ σ 42 j ∧ σ 42 j ≤ 8 := h (42, 2, 3, 0, 8) (List.mem_of_getElem? (i := 23) rfl) j h0 h1
theorem iv43_0 {σ : Nat → Int → Int} (h : InvX σ) (j : Int) (h0 : 0 ≤ j) (h1 : j < 8) : 0 ≤ σ 43 j ∧ σ 43 j ≤ 5 := h (43, 0, 8, 0, 5) (List.mem_of_getElem? (i := 24) rfl) j h0 h1
theorem iv45_2 {σ : Nat → Int → Int} (h : InvX σ) (j : Int) (h0 : 2 ≤ j) (h1 : j < 3) : 0 ≤ σ 45 j ∧ σ 45 j ≤ 8 := h (45, 2, 3, 0, 8) (List.mem_of_getElem? (i := 25) rfl) j h0 h1
theorem iv46_0 {σ : Nat → Int → Int} (h : InvX σ) (j : Int) (h0 : 0 ≤ j) (h1 : j < 8) : 0 ≤ σ 46 j ∧ σ 46 j ≤ 5 := h (46, 0, 8, 0, 5) (List.mem_of_getElem? (i := 26) rfl) j h0 h1
theorem iv48_2 {σ : Nat → Int → Int} (h : InvX σ) (j : Int) (h0 : 2 ≤ j) (h1 : j < 3) : 0 ≤ σ 48 j ∧ σ 48 j ≤ 12 := h (48, 2, 3, 0, 12) (List.mem_of_getElem? (i := 27) rfl) j h0 h1
theorem iv49_0 {σ : Nat → Int → Int} (h : InvX σ) (j : Int) (h0 : 0 ≤ j) (h1 : j < 12) : 0 ≤ σ 49 j ∧ σ 49 j ≤ 3 := h (49, 0, 12, 0, 3) (List.mem_of_getElem? (i := 28) rfl) j h0 h1
theorem iv50_0 {σ : Nat → Int → Int} (h : InvX σ) (j : Int) (h0 : 0 ≤ j) (h1 : j < 12) : 0 ≤ σ 50 j ∧ σ 50 j ≤ 5 := h (50, 0, 12, 0, 5) (List.mem_of_getElem? (i := 29) rfl) j h0 h1
theorem iv19_1 {σ : Nat → Int → Int} (h : InvX σ) (j : Int) (h0 : 1 ≤ j) (h1 : j < 2) : 0 ≤ σ 19 j ∧ σ 19 j ≤ 100 := h (19, 1, 2, 0, 100) (List.mem_of_getElem? (i := 30) rfl) j h0 h1
theorem iv21_1 {σ : Nat → Int → Int} (h : InvX σ) (j : Int) (h0 : 1 ≤ j) (h1 : j < 2) : 0 ≤ σ 21 j ∧ σ 21 j ≤ 100000000 := h (21, 1, 2, 0, 100000000) (List.mem_of_getElem? (i := 31) rfl) j h0 h1
theorem iv31_0 {σ : Nat → Int → Int} (h : InvX σ) (j : Int) (h0 : 0 ≤ j) (h1 : j < 6) : 0 ≤ σ 31 j ∧ σ 31 j ≤ 60 := h (31, 0, 6, 0, 60) (List.mem_of_getElem? (i := 32) rfl) j h0 h1
theorem iv32_0 {σ : Nat → Int → Int} (h : InvX σ) (j : Int) (h0 : 0 ≤ j) (h1 : j < 6) : -1 ≤ σ 32 j ∧ σ 32 j ≤ 4 := h (32, 0, 6, -1, 4) (List.mem_of_getElem? (i := 33) rfl) j h0 h1
theorem iv51_3 {σ : Nat → Int → Int} (h : InvX σ) (j : Int) (h0 : 3 ≤ j) (h1 : j < 4) : 0 ≤ σ 51 j ∧ σ 51 j ≤ 6 := h (51, 3, 4, 0, 6) (List.mem_of_getElem? (i := 34) rfl) j h0 h1
theorem iv59_0 {σ : Nat → Int → Int} (h : InvX σ) (j : Int) (h0 : 0 ≤ j) (h1 : j < 6) : 0 ≤ σ 59 j ∧ σ 59 j ≤ 100 := h (59, 0, 6, 0, 100) (List.mem_of_getElem? (i := 35) rfl) j h0 h1
theorem iv67_0 {σ : Nat → Int → Int} (h : InvX σ) (j : Int) (h0 : 0 ≤ j) (h1 : j < 6) : -9900 ≤ σ 67 j ∧ σ 67 j ≤ 9900 := h (67, 0, 6, -9900, 9900) (List.mem_of_getElem? (i := 36) rfl) j h0 h1
theorem iv68_0 {σ : Nat → Int → Int} (h : InvX σ) (j : Int) (h0 : 0 ≤ j) (h1 : j < 6) : -1000000 ≤ σ 68 j ∧ σ 68 j ≤ 1000000 := h (68, 0, 6, -1000000, 1000000) (List.mem_of_getElem? (i := 37) rfl) j h0 h1
theorem iv65_0 {σ : Nat → Int → Int} (h : InvX σ) (j : Int) (h0 : 0 ≤ j) (h1 : j < 5) : 0 ≤ σ 65 j ∧ σ 65 j ≤ 5 := h (65, 0, 5, 0, 5) (List.mem_of_getElem? (i := 38) rfl) j h0 h1
def ivC (k : Nat) (j : Int) : Bool := ivL.all (fun q => !(q.1 == k) || decide (j < q.2.1) || decide (q.2.2.1 ≤ j))
theorem iv_up {σ : Nat → Int → Int} {k : Nat} {j x : Int} (h : InvX σ) (hx : ∀ q ∈ ivL, q.1 = k → q.2.1 ≤ j → j < q.2.2.1 → q.2.2.2.1 ≤ x ∧ x ≤ q.2.2.2.2) : InvX (up σ k j x) := by
  intro q hq j' h0 h1
  by_cases e : q.1 = k ∧ j' = j
  · obtain ⟨e1, rfl⟩ := e
    rw [show up σ k j' x q.1 j' = x from if_pos ⟨e1, rfl⟩]
    exact hx q hq e1 h0 h1
  · rw [show up σ k j x q.1 j' = σ q.1 j' from if_neg e]
    exact h q hq j' h0 h1
theorem iv_free {σ : Nat → Int → Int} {k : Nat} {j x : Int} (h : InvX σ) (hf : ivC k j = true) : InvX (up σ k j x) := by
  refine iv_up h (fun q hq e h0 h1 => ?_)
  have := List.all_eq_true.mp hf q hq
  simp [e] at this
  omega
theorem iv_cell {σ : Nat → Int → Int} {k : Nat} {j x : Int} (h : InvX σ) (hf : ivL.all (fun q => !(q.1 == k)) = true) : InvX (up σ k j x) := by
  refine iv_up h (fun q hq e h0 h1 => ?_)
  have := List.all_eq_true.mp hf q hq
  simp [e] at this
theorem ivu1_0 {σ : Nat → Int → Int} {x : Int} (h : InvX σ) (h0 : 0 ≤ x) (h1 : x ≤ 6) : InvX (up σ 1 0 x) := by
  refine iv_up h (fun q hq e q0 q1 => ?_)
  have key : ∀ q ∈ ivL, q.1 = 1 → (q.2.1 = 0 ∧ q.2.2.2.1 = 0 ∧ q.2.2.2.2 = 6) ∨ q.2.2.1 ≤ 0 ∨ 0 < q.2.1 := by decide
  rcases key q hq e with ⟨-, e1, e2⟩ | e1 | e1
  · rw [e1, e2]; exact ⟨h0, h1⟩
  · omega
  · omega
theorem ivu1_6 {σ : Nat → Int → Int} {x : Int} (h : InvX σ) (h0 : 0 ≤ x) (h1 : x ≤ 4) : InvX (up σ 1 6 x) := by
  refine iv_up h (fun q hq e q0 q1 => ?_)
  have key : ∀ q ∈ ivL, q.1 = 1 → (q.2.1 = 6 ∧ q.2.2.2.1 = 0 ∧ q.2.2.2.2 = 4) ∨ q.2.2.1 ≤ 6 ∨ 6 < q.2.1 := by decide
  rcases key q hq e with ⟨-, e1, e2⟩ | e1 | e1
  · rw [e1, e2]; exact ⟨h0, h1⟩
  · omega
  · omega
theorem ivu2 {σ : Nat → Int → Int} {j x : Int} (h : InvX σ) (h0 : 0 ≤ x) (h1 : x ≤ 6) : InvX (up σ 2 j x) := by
  refine iv_up h (fun q hq e _ _ => ?_)
  have key : ∀ q ∈ ivL, q.1 = 2 → q.2.2.2.1 = 0 ∧ q.2.2.2.2 = 6 := by decide
  obtain ⟨e1, e2⟩ := key q hq e
  rw [e1, e2]; exact ⟨h0, h1⟩
theorem ivu3 {σ : Nat → Int → Int} {j x : Int} (h : InvX σ) (h0 : 0 ≤ x) (h1 : x ≤ 9) : InvX (up σ 3 j x) := by
  refine iv_up h (fun q hq e _ _ => ?_)
  have key : ∀ q ∈ ivL, q.1 = 3 → q.2.2.2.1 = 0 ∧ q.2.2.2.2 = 9 := by decide
  obtain ⟨e1, e2⟩ := key q hq e
  rw [e1, e2]; exact ⟨h0, h1⟩
theorem ivu4 {σ : Nat → Int → Int} {j x : Int} (h : InvX σ) (h0 : 0 ≤ x) (h1 : x ≤ 99) : InvX (up σ 4 j x) := by
  refine iv_up h (fun q hq e _ _ => ?_)
  have key : ∀ q ∈ ivL, q.1 = 4 → q.2.2.2.1 = 0 ∧ q.2.2.2.2 = 99 := by decide
  obtain ⟨e1, e2⟩ := key q hq e
  rw [e1, e2]; exact ⟨h0, h1⟩
theorem ivu7 {σ : Nat → Int → Int} {j x : Int} (h : InvX σ) (h0 : 0 ≤ x) (h1 : x ≤ 5) : InvX (up σ 7 j x) := by
  refine iv_up h (fun q hq e _ _ => ?_)
  have key : ∀ q ∈ ivL, q.1 = 7 → q.2.2.2.1 = 0 ∧ q.2.2.2.2 = 5 := by decide
  obtain ⟨e1, e2⟩ := key q hq e
  rw [e1, e2]; exact ⟨h0, h1⟩
theorem ivu8 {σ : Nat → Int → Int} {j x : Int} (h : InvX σ) (h0 : 0 ≤ x) (h1 : x ≤ 9) : InvX (up σ 8 j x) := by
  refine iv_up h (fun q hq e _ _ => ?_)
  have key : ∀ q ∈ ivL, q.1 = 8 → q.2.2.2.1 = 0 ∧ q.2.2.2.2 = 9 := by decide
  obtain ⟨e1, e2⟩ := key q hq e
  rw [e1, e2]; exact ⟨h0, h1⟩
theorem ivu9 {σ : Nat → Int → Int} {j x : Int} (h : InvX σ) (h0 : 0 ≤ x) (h1 : x ≤ 9) : InvX (up σ 9 j x) := by
  refine iv_up h (fun q hq e _ _ => ?_)
  have key : ∀ q ∈ ivL, q.1 = 9 → q.2.2.2.1 = 0 ∧ q.2.2.2.2 = 9 := by decide
  obtain ⟨e1, e2⟩ := key q hq e
  rw [e1, e2]; exact ⟨h0, h1⟩
theorem ivu10 {σ : Nat → Int → Int} {j x : Int} (h : InvX σ) (h0 : 0 ≤ x) (h1 : x ≤ 8) : InvX (up σ 10 j x) := by
  refine iv_up h (fun q hq e _ _ => ?_)
  have key : ∀ q ∈ ivL, q.1 = 10 → q.2.2.2.1 = 0 ∧ q.2.2.2.2 = 8 := by decide
  obtain ⟨e1, e2⟩ := key q hq e
  rw [e1, e2]; exact ⟨h0, h1⟩
theorem ivu11 {σ : Nat → Int → Int} {j x : Int} (h : InvX σ) (h0 : 0 ≤ x) (h1 : x ≤ 5) : InvX (up σ 11 j x) := by
  refine iv_up h (fun q hq e _ _ => ?_)
  have key : ∀ q ∈ ivL, q.1 = 11 → q.2.2.2.1 = 0 ∧ q.2.2.2.2 = 5 := by decide
  obtain ⟨e1, e2⟩ := key q hq e
  rw [e1, e2]; exact ⟨h0, h1⟩
theorem ivu13 {σ : Nat → Int → Int} {j x : Int} (h : InvX σ) (h0 : 0 ≤ x) (h1 : x ≤ 8) : InvX (up σ 13 j x) := by
  refine iv_up h (fun q hq e _ _ => ?_)
  have key : ∀ q ∈ ivL, q.1 = 13 → q.2.2.2.1 = 0 ∧ q.2.2.2.2 = 8 := by decide
  obtain ⟨e1, e2⟩ := key q hq e
  rw [e1, e2]; exact ⟨h0, h1⟩
theorem ivu14 {σ : Nat → Int → Int} {j x : Int} (h : InvX σ) (h0 : 0 ≤ x) (h1 : x ≤ 5) : InvX (up σ 14 j x) := by
  refine iv_up h (fun q hq e _ _ => ?_)
  have key : ∀ q ∈ ivL, q.1 = 14 → q.2.2.2.1 = 0 ∧ q.2.2.2.2 = 5 := by decide
  obtain ⟨e1, e2⟩ := key q hq e
  rw [e1, e2]; exact ⟨h0, h1⟩
theorem ivu16 {σ : Nat → Int → Int} {j x : Int} (h : InvX σ) (h0 : 0 ≤ x) (h1 : x ≤ 12) : InvX (up σ 16 j x) := by
  refine iv_up h (fun q hq e _ _ => ?_)
  have key : ∀ q ∈ ivL, q.1 = 16 → q.2.2.2.1 = 0 ∧ q.2.2.2.2 = 12 := by decide
  obtain ⟨e1, e2⟩ := key q hq e
  rw [e1, e2]; exact ⟨h0, h1⟩
theorem ivu17 {σ : Nat → Int → Int} {j x : Int} (h : InvX σ) (h0 : 0 ≤ x) (h1 : x ≤ 3) : InvX (up σ 17 j x) := by
  refine iv_up h (fun q hq e _ _ => ?_)
  have key : ∀ q ∈ ivL, q.1 = 17 → q.2.2.2.1 = 0 ∧ q.2.2.2.2 = 3 := by decide
  obtain ⟨e1, e2⟩ := key q hq e
  rw [e1, e2]; exact ⟨h0, h1⟩
theorem ivu18 {σ : Nat → Int → Int} {j x : Int} (h : InvX σ) (h0 : 0 ≤ x) (h1 : x ≤ 5) : InvX (up σ 18 j x) := by
  refine iv_up h (fun q hq e _ _ => ?_)
  have key : ∀ q ∈ ivL, q.1 = 18 → q.2.2.2.1 = 0 ∧ q.2.2.2.2 = 5 := by decide
  obtain ⟨e1, e2⟩ := key q hq e
  rw [e1, e2]; exact ⟨h0, h1⟩
theorem ivu19 {σ : Nat → Int → Int} {j x : Int} (h : InvX σ) (h0 : 0 ≤ x) (h1 : x ≤ 100) : InvX (up σ 19 j x) := by
  refine iv_up h (fun q hq e _ _ => ?_)
  have key : ∀ q ∈ ivL, q.1 = 19 → q.2.2.2.1 = 0 ∧ q.2.2.2.2 = 100 := by decide
  obtain ⟨e1, e2⟩ := key q hq e
  rw [e1, e2]; exact ⟨h0, h1⟩
theorem ivu21 {σ : Nat → Int → Int} {j x : Int} (h : InvX σ) (h0 : 0 ≤ x) (h1 : x ≤ 100000000) : InvX (up σ 21 j x) := by
  refine iv_up h (fun q hq e _ _ => ?_)
  have key : ∀ q ∈ ivL, q.1 = 21 → q.2.2.2.1 = 0 ∧ q.2.2.2.2 = 100000000 := by decide
  obtain ⟨e1, e2⟩ := key q hq e
  rw [e1, e2]; exact ⟨h0, h1⟩
theorem ivu31 {σ : Nat → Int → Int} {j x : Int} (h : InvX σ) (h0 : 0 ≤ x) (h1 : x ≤ 60) : InvX (up σ 31 j x) := by
  refine iv_up h (fun q hq e _ _ => ?_)
  have key : ∀ q ∈ ivL, q.1 = 31 → q.2.2.2.1 = 0 ∧ q.2.2.2.2 = 60 := by decide
  obtain ⟨e1, e2⟩ := key q hq e
  rw [e1, e2]; exact ⟨h0, h1⟩
theorem ivu32 {σ : Nat → Int → Int} {j x : Int} (h : InvX σ) (h0 : -1 ≤ x) (h1 : x ≤ 4) : InvX (up σ 32 j x) := by
  refine iv_up h (fun q hq e _ _ => ?_)
  have key : ∀ q ∈ ivL, q.1 = 32 → q.2.2.2.1 = -1 ∧ q.2.2.2.2 = 4 := by decide
  obtain ⟨e1, e2⟩ := key q hq e
  rw [e1, e2]; exact ⟨h0, h1⟩
theorem ivu33_0 {σ : Nat → Int → Int} {x : Int} (h : InvX σ) (h0 : 0 ≤ x) (h1 : x ≤ 6) : InvX (up σ 33 0 x) := by
  refine iv_up h (fun q hq e q0 q1 => ?_)
  have key : ∀ q ∈ ivL, q.1 = 33 → (q.2.1 = 0 ∧ q.2.2.2.1 = 0 ∧ q.2.2.2.2 = 6) ∨ q.2.2.1 ≤ 0 ∨ 0 < q.2.1 := by decide
  rcases key q hq e with ⟨-, e1, e2⟩ | e1 | e1
  · rw [e1, e2]; exact ⟨h0, h1⟩
  · omega
  · omega
theorem ivu33_6 {σ : Nat → Int → Int} {x : Int} (h : InvX σ) (h0 : 0 ≤ x) (h1 : x ≤ 4) : InvX (up σ 33 6 x) := by
  refine iv_up h (fun q hq e q0 q1 => ?_)
  have key : ∀ q ∈ ivL, q.1 = 33 → (q.2.1 = 6 ∧ q.2.2.2.1 = 0 ∧ q.2.2.2.2 = 4) ∨ q.2.2.1 ≤ 6 ∨ 6 < q.2.1 := by decide
  rcases key q hq e with ⟨-, e1, e2⟩ | e1 | e1
  · rw [e1, e2]; exact ⟨h0, h1⟩
  · omega
  · omega
theorem ivu34 {σ : Nat → Int → Int} {j x : Int} (h : InvX σ) (h0 : 0 ≤ x) (h1 : x ≤ 6) : InvX (up σ 34 j x) := by
  refine iv_up h (fun q hq e _ _ => ?_)
  have key : ∀ q ∈ ivL, q.1 = 34 → q.2.2.2.1 = 0 ∧ q.2.2.2.2 = 6 := by decide
  obtain ⟨e1, e2⟩ := key q hq e
  rw [e1, e2]; exact ⟨h0, h1⟩
theorem ivu35 {σ : Nat → Int → Int} {j x : Int} (h : InvX σ) (h0 : 0 ≤ x) (h1 : x ≤ 9) : InvX (up σ 35 j x) := by
  refine iv_up h (fun q hq e _ _ => ?_)
  have key : ∀ q ∈ ivL, q.1 = 35 → q.2.2.2.1 = 0 ∧ q.2.2.2.2 = 9 := by decide
  obtain ⟨e1, e2⟩ := key q hq e
  rw [e1, e2]; exact ⟨h0, h1⟩
theorem ivu36 {σ : Nat → Int → Int} {j x : Int} (h : InvX σ) (h0 : 0 ≤ x) (h1 : x ≤ 99) : InvX (up σ 36 j x) := by
  refine iv_up h (fun q hq e _ _ => ?_)
  have key : ∀ q ∈ ivL, q.1 = 36 → q.2.2.2.1 = 0 ∧ q.2.2.2.2 = 99 := by decide
  obtain ⟨e1, e2⟩ := key q hq e
  rw [e1, e2]; exact ⟨h0, h1⟩
theorem ivu39 {σ : Nat → Int → Int} {j x : Int} (h : InvX σ) (h0 : 0 ≤ x) (h1 : x ≤ 5) : InvX (up σ 39 j x) := by
  refine iv_up h (fun q hq e _ _ => ?_)
  have key : ∀ q ∈ ivL, q.1 = 39 → q.2.2.2.1 = 0 ∧ q.2.2.2.2 = 5 := by decide
  obtain ⟨e1, e2⟩ := key q hq e
  rw [e1, e2]; exact ⟨h0, h1⟩
theorem ivu40 {σ : Nat → Int → Int} {j x : Int} (h : InvX σ) (h0 : 0 ≤ x) (h1 : x ≤ 9) : InvX (up σ 40 j x) := by
  refine iv_up h (fun q hq e _ _ => ?_)
  have key : ∀ q ∈ ivL, q.1 = 40 → q.2.2.2.1 = 0 ∧ q.2.2.2.2 = 9 := by decide
  obtain ⟨e1, e2⟩ := key q hq e
  rw [e1, e2]; exact ⟨h0, h1⟩
theorem ivu41 {σ : Nat → Int → Int} {j x : Int} (h : InvX σ) (h0 : 0 ≤ x) (h1 : x ≤ 9) : InvX (up σ 41 j x) := by
  refine iv_up h (fun q hq e _ _ => ?_)
  have key : ∀ q ∈ ivL, q.1 = 41 → q.2.2.2.1 = 0 ∧ q.2.2.2.2 = 9 := by decide
  obtain ⟨e1, e2⟩ := key q hq e
  rw [e1, e2]; exact ⟨h0, h1⟩
theorem ivu42 {σ : Nat → Int → Int} {j x : Int} (h : InvX σ) (h0 : 0 ≤ x) (h1 : x ≤ 8) : InvX (up σ 42 j x) := by
  refine iv_up h (fun q hq e _ _ => ?_)
  have key : ∀ q ∈ ivL, q.1 = 42 → q.2.2.2.1 = 0 ∧ q.2.2.2.2 = 8 := by decide
  obtain ⟨e1, e2⟩ := key q hq e
  rw [e1, e2]; exact ⟨h0, h1⟩
theorem ivu43 {σ : Nat → Int → Int} {j x : Int} (h : InvX σ) (h0 : 0 ≤ x) (h1 : x ≤ 5) : InvX (up σ 43 j x) := by
  refine iv_up h (fun q hq e _ _ => ?_)
  have key : ∀ q ∈ ivL, q.1 = 43 → q.2.2.2.1 = 0 ∧ q.2.2.2.2 = 5 := by decide
  obtain ⟨e1, e2⟩ := key q hq e
  rw [e1, e2]; exact ⟨h0, h1⟩
theorem ivu45 {σ : Nat → Int → Int} {j x : Int} (h : InvX σ) (h0 : 0 ≤ x) (h1 : x ≤ 8) : InvX (up σ 45 j x) := by
  refine iv_up h (fun q hq e _ _ => ?_)
  have key : ∀ q ∈ ivL, q.1 = 45 → q.2.2.2.1 = 0 ∧ q.2.2.2.2 = 8 := by decide
  obtain ⟨e1, e2⟩ := key q hq e
  rw [e1, e2]; exact ⟨h0, h1⟩
theorem ivu46 {σ : Nat → Int → Int} {j x : Int} (h : InvX σ) (h0 : 0 ≤ x) (h1 : x ≤ 5) : InvX (up σ 46 j x) := by
  refine iv_up h (fun q hq e _ _ => ?_)
  have key : ∀ q ∈ ivL, q.1 = 46 → q.2.2.2.1 = 0 ∧ q.2.2.2.2 = 5 := by decide
  obtain ⟨e1, e2⟩ := key q hq e
  rw [e1, e2]; exact ⟨h0, h1⟩
theorem ivu48 {σ : Nat → Int → Int} {j x : Int} (h : InvX σ) (h0 : 0 ≤ x) (h1 : x ≤ 12) : InvX (up σ 48 j x) := by
  refine iv_up h (fun q hq e _ _ => ?_)
  have key : ∀ q ∈ ivL, q.1 = 48 → q.2.2.2.1 = 0 ∧ q.2.2.2.2 = 12 := by decide
  obtain ⟨e1, e2⟩ := key q hq e
  rw [e1, e2]; exact ⟨h0, h1⟩
theorem ivu49 {σ : Nat → Int → Int} {j x : Int} (h : InvX σ) (h0 : 0 ≤ x) (h1 : x ≤ 3) : InvX (up σ 49 j x) := by
  refine iv_up h (fun q hq e _ _ => ?_)
  have key : ∀ q ∈ ivL, q.1 = 49 → q.2.2.2.1 = 0 ∧ q.2.2.2.2 = 3 := by decide
  obtain ⟨e1, e2⟩ := key q hq e
  rw [e1, e2]; exact ⟨h0, h1⟩
theorem ivu50 {σ : Nat → Int → Int} {j x : Int} (h : InvX σ) (h0 : 0 ≤ x) (h1 : x ≤ 5) : InvX (up σ 50 j x) := by
  refine iv_up h (fun q hq e _ _ => ?_)
  have key : ∀ q ∈ ivL, q.1 = 50 → q.2.2.2.1 = 0 ∧ q.2.2.2.2 = 5 := by decide
  obtain ⟨e1, e2⟩ := key q hq e
  rw [e1, e2]; exact ⟨h0, h1⟩
theorem ivu51 {σ : Nat → Int → Int} {j x : Int} (h : InvX σ) (h0 : 0 ≤ x) (h1 : x ≤ 6) : InvX (up σ 51 j x) := by
  refine iv_up h (fun q hq e _ _ => ?_)
  have key : ∀ q ∈ ivL, q.1 = 51 → q.2.2.2.1 = 0 ∧ q.2.2.2.2 = 6 := by decide
  obtain ⟨e1, e2⟩ := key q hq e
  rw [e1, e2]; exact ⟨h0, h1⟩
theorem ivu59 {σ : Nat → Int → Int} {j x : Int} (h : InvX σ) (h0 : 0 ≤ x) (h1 : x ≤ 100) : InvX (up σ 59 j x) := by
  refine iv_up h (fun q hq e _ _ => ?_)
  have key : ∀ q ∈ ivL, q.1 = 59 → q.2.2.2.1 = 0 ∧ q.2.2.2.2 = 100 := by decide
  obtain ⟨e1, e2⟩ := key q hq e
  rw [e1, e2]; exact ⟨h0, h1⟩
theorem ivu65 {σ : Nat → Int → Int} {j x : Int} (h : InvX σ) (h0 : 0 ≤ x) (h1 : x ≤ 5) : InvX (up σ 65 j x) := by
  refine iv_up h (fun q hq e _ _ => ?_)
  have key : ∀ q ∈ ivL, q.1 = 65 → q.2.2.2.1 = 0 ∧ q.2.2.2.2 = 5 := by decide
  obtain ⟨e1, e2⟩ := key q hq e
  rw [e1, e2]; exact ⟨h0, h1⟩
theorem ivu67 {σ : Nat → Int → Int} {j x : Int} (h : InvX σ) (h0 : -9900 ≤ x) (h1 : x ≤ 9900) : InvX (up σ 67 j x) := by
  refine iv_up h (fun q hq e _ _ => ?_)
  have key : ∀ q ∈ ivL, q.1 = 67 → q.2.2.2.1 = -9900 ∧ q.2.2.2.2 = 9900 := by decide
  obtain ⟨e1, e2⟩ := key q hq e
  rw [e1, e2]; exact ⟨h0, h1⟩
theorem ivu68 {σ : Nat → Int → Int} {j x : Int} (h : InvX σ) (h0 : -1000000 ≤ x) (h1 : x ≤ 1000000) : InvX (up σ 68 j x) := by
  refine iv_up h (fun q hq e _ _ => ?_)
  have key : ∀ q ∈ ivL, q.1 = 68 → q.2.2.2.1 = -1000000 ∧ q.2.2.2.2 = 1000000 := by decide
  obtain ⟨e1, e2⟩ := key q hq e
  rw [e1, e2]; exact ⟨h0, h1⟩
theorem iv_fr {F : Nat → Int → Bool} {σ σ' : Nat → Int → Int} (h : InvX σ) (hF : Fr F σ σ') (hd : ∀ q ∈ ivL, ∀ j, q.2.1 ≤ j → j < q.2.2.1 → F q.1 j = false) : InvX σ' := by
  intro q hq j h0 h1
  rw [hF q.1 j (hd q hq j h0 h1)]
  exact h q hq j h0 h1
/-- what every call of the class keeps: its bounds, and all that is the reference's -/
def XP (σ σ' : Nat → Int → Int) : Prop := InvX σ' ∧ ∀ k j, 69 ≤ k → σ' k j = σ k j
theorem XP.rf {σ : Nat → Int → Int} (h : InvX σ) : XP σ σ := ⟨h, fun _ _ _ => rfl⟩
theorem XP.tr {a b c : Nat → Int → Int} (h : XP a b) (h' : XP b c) : XP a c := ⟨h'.1, fun k j q => (h'.2 k j q).trans (h.2 k j q)⟩
theorem hi_up {σ σ0 : Nat → Int → Int} {c k : Nat} {j' j x : Int} (hk : 69 ≤ k) (hc : c < 69) (h : σ k j = σ0 k j) : up σ c j' x k j = σ0 k j := by rw [up_cell (by omega)]; exact h

