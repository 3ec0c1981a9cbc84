def ivL : List (Nat × Int × Int × Int × Int) := [(1, 0, 1, 0, 6), (1, 6, 7, 0, 4), (2, 0, 6, 0, 6), (3, 0, 6, 0, 9), (4, 0, 6, 0, 99), (7, 0, 4, 0, 5), (8, 0, 4, 0, 9), (9, 0, 4, 0, 9), (10, 2, 3, 0, 8), (11, 0, 8, 0, 5), (13, 2, 3, 0, 8), (14, 0, 8, 0, 5), (16, 2, 3, 0, 12), (17, 0, 12, 0, 3), (18, 0, 12, 0, 5), (33, 0, 1, 0, 6), (33, 6, 7, 0, 4), (34, 0, 6, 0, 6), (35, 0, 6, 0, 9), (36, 0, 6, 0, 99), (39, 0, 4, 0, 5), (40, 0, 4, 0, 9), (41, 0, 4, 0, 9), (42, 2, 3, 0, 8), (43, 0, 8, 0, 5), (45, 2, 3, 0, 8), (46, 0, 8, 0, 5), (48, 2, 3, 0, 12), (49, 0, 12, 0, 3), (50, 0, 12, 0, 5), (19, 1, 2, 0, 100), (19, 2, 3, 0, 100), (19, 5, 6, 0, 100), (19, 6, 7, 0, 200), (21, 1, 2, 0, 100000000), (31, 0, 6, 0, 60), (32, 0, 6, -1, 4), (51, 3, 4, 0, 6), (51, 5, 6, -9900, 9900), (51, 6, 7, -9900, 9900), (59, 0, 6, 0, 100), (67, 0, 6, -9900, 9900), (68, 0, 6, -1000000, 1000000), (65, 0, 5, 0, 5), (63, 2, 3, 0, 5), (66, 5, 6, 0, 5), (66, 8, 9, 0, 9)]
def InvX (σ : Nat → Int → Int) : Prop := ∀ q ∈ ivL, ∀ j, q.2.1 ≤ j → j < q.2.2.1 → q.2.2.2.1 ≤ σ q.1 j ∧ σ q.1 j ≤ q.2.2.2.2
theorem iv1_0 {σ : Nat → Int → Int} (h : InvX σ) (j : Int) (h0 : 0 ≤ j) (h1 : j < 1) : 0 ≤ σ 1 j ∧ σ 1 j ≤ 6 := h (1, 0, 1, 0, 6) (List.mem_of_getElem? (i := 0) rfl) j h0 h1
theorem iv1_6 {σ : Nat → Int → Int} (h : InvX σ) (j : Int) (h0 : 6 ≤ j) (h1 : j < 7) : 0 ≤ σ 1 j ∧ σ 1 j ≤ 4 := h (1, 6, 7, 0, 4) (List.mem_of_getElem? (i := 1) rfl) j h0 h1
theorem iv2_0 {σ : Nat → Int → Int} (h : InvX σ) (j : Int) (h0 : 0 ≤ j) (h1 : j < 6) : 0 ≤ σ 2 j ∧ σ 2 j ≤ 6 := h (2, 0, 6, 0, 6) (List.mem_of_getElem? (i := 2) rfl) j h0 h1
theorem iv3_0 {σ : Nat → Int → Int} (h : InvX σ) (j : Int) (h0 : 0 ≤ j) (h1 : j < 6) : 0 ≤ σ 3 j ∧ σ 3 j ≤ 9 := h (3, 0, 6, 0, 9) (List.mem_of_getElem? (i := 3) rfl) j h0 h1
theorem iv4_0 {σ : Nat → Int → Int} (h : InvX σ) (j : Int) (h0 : 0 ≤ j) (h1 : j < 6) : 0 ≤ σ 4 j ∧ σ 4 j ≤ 99 := h (4, 0, 6, 0, 99) (List.mem_of_getElem? (i := 4) rfl) j h0 h1
theorem iv7_0 {σ : Nat → Int → Int} (h : InvX σ) (j : Int) (h0 : 0 ≤ j) (h1 : j < 4) : 0 ≤ σ 7 j ∧ σ 7 j ≤ 5 := h (7, 0, 4, 0, 5) (List.mem_of_getElem? (i := 5) rfl) j h0 h1
theorem iv8_0 {σ : Nat → Int → Int} (h : InvX σ) (j : Int) (h0 : 0 ≤ j) (h1 : j < 4) : 0 ≤ σ 8 j ∧ σ 8 j ≤ 9 := h (8, 0, 4, 0, 9) (List.mem_of_getElem? (i := 6) rfl) j h0 h1
theorem iv9_0 {σ : Nat → Int → Int} (h : InvX σ) (j : Int) (h0 : 0 ≤ j) (h1 : j < 4) : 0 ≤ σ 9 j ∧ σ 9 j ≤ 9 := h (9, 0, 4, 0, 9) (List.mem_of_getElem? (i := 7) rfl) j h0 h1
theorem iv10_2 {σ : Nat → Int → Int} (h : InvX σ) (j : Int) (h0 : 2 ≤ j) (h1 : j < 3) : 0 ≤ σ 10 j ∧ σ 10 j ≤ 8 := h (10, 2, 3, 0, 8) (List.mem_of_getElem? (i := 8) rfl) j h0 h1
theorem iv11_0 {σ : Nat → Int → Int} (h : InvX σ) (j : Int) (h0 : 0 ≤ j) (h1 : j < 8) : 0 ≤ σ 11 j ∧ σ 11 j ≤ 5 := h (11, 0, 8, 0, 5) (List.mem_of_getElem? (i := 9) rfl) j h0 h1
theorem iv13_2 {σ : Nat → Int → Int} (h : InvX σ) (j : Int) (h0 : 2 ≤ j) (h1 : j < 3) : 0 ≤ σ 13 j ∧ σ 13 j ≤ 8 := h (13, 2, 3, 0, 8) (List.mem_of_getElem? (i := 10) rfl) j h0 h1
theorem iv14_0 {σ : Nat → Int → Int} (h : InvX σ) (j : Int) (h0 : 0 ≤ j) (h1 : j < 8) : 0 ≤ σ 14 j ∧ σ 14 j ≤ 5 := h (14, 0, 8, 0, 5) (List.mem_of_getElem? (i := 11) rfl) j h0 h1
theorem iv16_2 {σ : Nat → Int → Int} (h : InvX σ) (j : Int) (h0 : 2 ≤ j) (h1 : j < 3) : 0 ≤ σ 16 j ∧ σ 16 j ≤ 12 := h (16, 2, 3, 0, 12) (List.mem_of_getElem? (i := 12) rfl) j h0 h1
theorem iv17_0 {σ : Nat → Int → Int} (h : InvX σ) (j : Int) (h0 : 0 ≤ j) (h1 : j < 12) : 0 ≤ σ 17 j ∧ σ 17 j ≤ 3 := h (17, 0, 12, 0, 3) (List.mem_of_getElem? (i := 13) rfl) j h0 h1
theorem iv18_0 {σ : Nat → Int → Int} (h : InvX σ) (j : Int) (h0 : 0 ≤ j) (h1 : j < 12) : 0 ≤ σ 18 j ∧ σ 18 j ≤ 5 := h (18, 0, 12, 0, 5) (List.mem_of_getElem? (i := 14) rfl) j h0 h1
theorem iv33_0 {σ : Nat → Int → Int} (h : InvX σ) (j : Int) (h0 : 0 ≤ j) (h1 : j < 1) : 0 ≤ σ 33 j ∧ σ 33 j ≤ 6 := h (33, 0, 1, 0, 6) (List.mem_of_getElem? (i := 15) rfl) j h0 h1
theorem iv33_6 {σ : Nat → Int → Int} (h : InvX σ) (j : Int) (h0 : 6 ≤ j) (h1 : j < 7) : 0 ≤ σ 33 j ∧ σ 33 j ≤ 4 := h (33, 6, 7, 0, 4) (List.mem_of_getElem? (i := 16) rfl) j h0 h1
theorem iv34_0 {σ : Nat → Int → Int} (h : InvX σ) (j : Int) (h0 : 0 ≤ j) (h1 : j < 6) : 0 ≤ σ 34 j ∧ σ 34 j ≤ 6 := h (34, 0, 6, 0, 6) (List.mem_of_getElem? (i := 17) rfl) j h0 h1
theorem iv35_0 {σ : Nat → Int → Int} (h : InvX σ) (j : Int) (h0 : 0 ≤ j) (h1 : j < 6) : 0 ≤ σ 35 j ∧ σ 35 j ≤ 9 := h (35, 0, 6, 0, 9) (List.mem_of_getElem? (i := 18) rfl) j h0 h1
theorem iv36_0 {σ : Nat → Int → Int} (h : InvX σ) (j : Int) (h0 : 0 ≤ j) (h1 : j < 6) : 0 ≤ σ 36 j ∧ σ 36 j ≤ 99 := h (36, 0, 6, 0, 99) (List.mem_of_getElem? (i := 19) rfl) j h0 h1
theorem iv39_0 {σ : Nat → Int → Int} (h : InvX σ) (j : Int) (h0 : 0 ≤ j) (h1 : j < 4) : 0 ≤ σ 39 j ∧ σ 39 j ≤ 5 := h (39, 0, 4, 0, 5) (List.mem_of_getElem? (i := 20) rfl) j h0 h1
theorem iv40_0 {σ : Nat → Int → Int} (h : InvX σ) (j : Int) (h0 : 0 ≤ j) (h1 : j < 4) : 0 ≤ σ 40 j ∧ σ 40 j ≤ 9 := h (40, 0, 4, 0, 9) (List.mem_of_getElem? (i := 21) rfl) j h0 h1
theorem iv41_0 {σ : Nat → Int → Int} (h : InvX σ) (j : Int) (h0 : 0 ≤ j) (h1 : j < 4) : 0 ≤ σ 41 j ∧ σ 41 j ≤ 9 := h (41, 0, 4, 0, 9) (List.mem_of_getElem? (i := 22) rfl) j h0 h1
theorem iv42_2 {σ : Nat → Int → Int} (h : InvX σ) (j : Int) (h0 : 2 ≤ j) (h1 : j < 3) : 0 ≤ σ 42 j ∧ σ 42 j ≤ 8 := h (42, 2, 3, 0, 8) (List.mem_of_getElem? (i := 23) rfl) j h0 h1
theorem iv43_0 {σ : Nat → Int → Int} (h : InvX σ) (j : Int) (h0 : 0 ≤ j) (h1 : j < 8) : 0 ≤ σ 43 j ∧ σ 43 j ≤ 5 := h (43, 0, 8, 0, 5) (List.mem_of_getElem? (i := 24) rfl) j h0 h1
theorem iv45_2 {σ : Nat → Int → Int} (h : InvX σ) (j : Int) (h0 : 2 ≤ j) (h1 : j < 3) : 0 ≤ σ 45 j ∧ σ 45 j ≤ 8 := h (45, 2, 3, 0, 8) (List.mem_of_getElem? (i := 25) rfl) j h0 h1
theorem iv46_0 {σ : Nat → Int → Int} (h : InvX σ) (j : Int) (h0 : 0 ≤ j) (h1 : j < 8) : 0 ≤ σ 46 j ∧ σ 46 j ≤ 5 := h (46, 0, 8, 0, 5) (List.mem_of_getElem? (i := 26) rfl) j h0 h1
theorem iv48_2 {σ : Nat → Int → Int} (h : InvX σ) (j : Int) (h0 : 2 ≤ j) (h1 : j < 3) : 0 ≤ σ 48 j ∧ σ 48 j ≤ 12 := h (48, 2, 3, 0, 12) (List.mem_of_getElem? (i := 27) rfl) j h0 h1
theorem iv49_0 {σ : Nat → Int → Int} (h : InvX σ) (j : Int) (h0 : 0 ≤ j) (h1 : j < 12) : 0 ≤ σ 49 j ∧ σ 49 j ≤ 3 := h (49, 0, 12, 0, 3) (List.mem_of_getElem? (i := 28) rfl) j h0 h1
theorem iv50_0 {σ : Nat → Int → Int} (h : InvX σ) (j : Int) (h0 : 0 ≤ j) (h1 : j < 12) : 0 ≤ σ 50 j ∧ σ 50 j ≤ 5 := h (50, 0, 12, 0, 5) (List.mem_of_getElem? (i := 29) rfl) j h0 h1
theorem iv19_1 {σ : Nat → Int → Int} (h : InvX σ) (j : Int) (h0 : 1 ≤ j) (h1 : j < 2) : 0 ≤ σ 19 j ∧ σ 19 j ≤ 100 := h (19, 1, 2, 0, 100) (List.mem_of_getElem? (i := 30) rfl) j h0 h1
theorem iv19_2 {σ : Nat → Int → Int} (h : InvX σ) (j : Int) (h0 : 2 ≤ j) (h1 : j < 3) : 0 ≤ σ 19 j ∧ σ 19 j ≤ 100 := h (19, 2, 3, 0, 100) (List.mem_of_getElem? (i := 31) rfl) j h0 h1
theorem iv19_5 {σ : Nat → Int → Int} (h : InvX σ) (j : Int) (h0 : 5 ≤ j) (h1 : j < 6) : 0 ≤ σ 19 j ∧ σ 19 j ≤ 100 := h (19, 5, 6, 0, 100) (List.mem_of_getElem? (i := 32) rfl) j h0 h1
theorem iv19_6 {σ : Nat → Int → Int} (h : InvX σ) (j : Int) (h0 : 6 ≤ j) (h1 : j < 7) : 0 ≤ σ 19 j ∧ σ 19 j ≤ 200 := h (19, 6, 7, 0, 200) (List.mem_of_getElem? (i := 33) rfl) j h0 h1
theorem iv21_1 {σ : Nat → Int → Int} (h : InvX σ) (j : Int) (h0 : 1 ≤ j) (h1 : j < 2) : 0 ≤ σ 21 j ∧ σ 21 j ≤ 100000000 := h (21, 1, 2, 0, 100000000) (List.mem_of_getElem? (i := 34) rfl) j h0 h1
theorem iv31_0 {σ : Nat → Int → Int} (h : InvX σ) (j : Int) (h0 : 0 ≤ j) (h1 : j < 6) : 0 ≤ σ 31 j ∧ σ 31 j ≤ 60 := h (31, 0, 6, 0, 60) (List.mem_of_getElem? (i := 35) rfl) j h0 h1
theorem iv32_0 {σ : Nat → Int → Int} (h : InvX σ) (j : Int) (h0 : 0 ≤ j) (h1 : j < 6) : -1 ≤ σ 32 j ∧ σ 32 j ≤ 4 := h (32, 0, 6, -1, 4) (List.mem_of_getElem? (i := 36) rfl) j h0 h1
theorem iv51_3 {σ : Nat → Int → Int} (h : InvX σ) (j : Int) (h0 : 3 ≤ j) (h1 : j < 4) : 0 ≤ σ 51 j ∧ σ 51 j ≤ 6 := h (51, 3, 4, 0, 6) (List.mem_of_getElem? (i := 37) rfl) j h0 h1
theorem iv51_5 {σ : Nat → Int → Int} (h : InvX σ) (j : Int) (h0 : 5 ≤ j) (h1 : j < 6) : -9900 ≤ σ 51 j ∧ σ 51 j ≤ 9900 := h (51, 5, 6, -9900, 9900) (List.mem_of_getElem? (i := 38) rfl) j h0 h1
theorem iv51_6 {σ : Nat → Int → Int} (h : InvX σ) (j : Int) (h0 : 6 ≤ j) (h1 : j < 7) : -9900 ≤ σ 51 j ∧ σ 51 j ≤ 9900 := h (51, 6, 7, -9900, 9900) (List.mem_of_getElem? (i := 39) rfl) j h0 h1
theorem iv59_0 {σ : Nat → Int → Int} (h : InvX σ) (j : Int) (h0 : 0 ≤ j) (h1 : j < 6) : 0 ≤ σ 59 j ∧ σ 59 j ≤ 100 := h (59, 0, 6, 0, 100) (List.mem_of_getElem? (i := 40) rfl) j h0 h1
theorem iv67_0 {σ : Nat → Int → Int} (h : InvX σ) (j : Int) (h0 : 0 ≤ j) (h1 : j < 6) : -9900 ≤ σ 67 j ∧ σ 67 j ≤ 9900 := h (67, 0, 6, -9900, 9900) (List.mem_of_getElem? (i := 41) rfl) j h0 h1
theorem iv68_0 {σ : Nat → Int → Int} (h : InvX σ) (j : Int) (h0 : 0 ≤ j) (h1 : j < 6) : -1000000 ≤ σ 68 j ∧ σ 68 j ≤ 1000000 := h (68, 0, 6, -1000000, 1000000) (List.mem_of_getElem? (i := 42) rfl) j h0 h1
theorem iv65_0 {σ : Nat → Int → Int} (h : InvX σ) (j : Int) (h0 : 0 ≤ j) (h1 : j < 5) : 0 ≤ σ 65 j ∧ σ 65 j ≤ 5 := h (65, 0, 5, 0, 5) (List.mem_of_getElem? (i := 43) rfl) j h0 h1
theorem iv63_2 {σ : Nat → Int → Int} (h : InvX σ) (j : Int) (h0 : 2 ≤ j) (h1 : j < 3) : 0 ≤ σ 63 j ∧ σ 63 j ≤ 5 := h (63, 2, 3, 0, 5) (List.mem_of_getElem? (i := 44) rfl) j h0 h1
theorem iv66_5 {σ : Nat → Int → Int} (h : InvX σ) (j : Int) (h0 : 5 ≤ j) (h1 : j < 6) : 0 ≤ σ 66 j ∧ σ 66 j ≤ 5 := h (66, 5, 6, 0, 5) (List.mem_of_getElem? (i := 45) rfl) j h0 h1
theorem iv66_8 {σ : Nat → Int → Int} (h : InvX σ) (j : Int) (h0 : 8 ≤ j) (h1 : j < 9) : 0 ≤ σ 66 j ∧ σ 66 j ≤ 9 := h (66, 8, 9, 0, 9) (List.mem_of_getElem? (i := 46) rfl) j h0 h1
def ivC (k : Nat) (j : Int) : Bool := ivL.all (fun q => !(q.1 == k) || decide (j < q.2.1) || decide (q.2.2.1 ≤ j))
theorem iv_up {σ : Nat → Int → Int} {k : Nat} {j x : Int} (h : InvX σ) (hx : ∀ q ∈ ivL, q.1 = k → q.2.1 ≤ j → j < q.2.2.1 → q.2.2.2.1 ≤ x ∧ x ≤ q.2.2.2.2) : InvX (up σ k j x) := by
  intro q hq j' h0 h1
  by_cases e : q.1 = k ∧ j' = j
  · obtain ⟨e1, rfl⟩ := e
    rw [show up σ k j' x q.1 j' = x from if_pos ⟨e1, rfl⟩]
    exact hx q hq e1 h0 h1
  · rw [show up σ k j x q.1 j' = σ q.1 j' from if_neg e]
    exact h q hq j' h0 h1
theorem iv_free {σ : Nat → Int → Int} {k : Nat} {j x : Int} (h : InvX σ) (hf : ivC k j = true) : InvX (up σ k j x) := by
  refine iv_up h (fun q hq e h0 h1 => ?_)
  have := List.all_eq_true.mp hf q hq
  simp [e] at this
  omega
theorem iv_cell {σ : Nat → Int → Int} {k : Nat} {j x : Int} (h : InvX σ) (hf : ivL.all (fun q => !(q.1 == k)) = true) : InvX (up σ k j x) := by
  refine iv_up h (fun q hq e h0 h1 => ?_)
  have := List.all_eq_true.mp hf q hq
  simp [e] at this
theorem iv_cellV {σ : Nat → Int → Int} {k : Nat} {j x : Int} (h : InvX σ) (hk : (25 ≤ k ∧ k ≤ 30) ∨ (53 ≤ k ∧ k ≤ 58)) : InvX (up σ k j x) := by
  refine iv_up h (fun q hq e h0 h1 => ?_)
  have key : ∀ q ∈ ivL, ¬ ((25 ≤ q.1 ∧ q.1 ≤ 30) ∨ (53 ≤ q.1 ∧ q.1 ≤ 58)) := by decide
  exact absurd (e ▸ hk) (key q hq)
theorem ivu1_0 {σ : Nat → Int → Int} {x : Int} (h : InvX σ) (h0 : 0 ≤ x) (h1 : x ≤ 6) : InvX (up σ 1 0 x) := by
  refine iv_up h (fun q hq e q0 q1 => ?_)
  have key : ∀ q ∈ ivL, q.1 = 1 → (q.2.1 = 0 ∧ q.2.2.2.1 = 0 ∧ q.2.2.2.2 = 6) ∨ q.2.2.1 ≤ 0 ∨ 0 < q.2.1 := by decide
  rcases key q hq e with ⟨-, e1, e2⟩ | e1 | e1
  · rw [e1, e2]; exact ⟨h0, h1⟩
  · omega
  · omega
theorem ivu1_6 {σ : Nat → Int → Int} {x : Int} (h : InvX σ) (h0 : 0 ≤ x) (h1 : x ≤ 4) : InvX (up σ 1 6 x) := by
  refine iv_up h (fun q hq e q0 q1 => ?_)
  have key : ∀ q ∈ ivL, q.1 = 1 → (q.2.1 = 6 ∧ q.2.2.2.1 = 0 ∧ q.2.2.2.2 = 4) ∨ q.2.2.1 ≤ 6 ∨ 6 < q.2.1 := by decide
  rcases key q hq e with ⟨-, e1, e2⟩ | e1 | e1
  · rw [e1, e2]; exact ⟨h0, h1⟩
  · omega
  · omega
theorem ivu2 {σ : Nat → Int → Int} {j x : Int} (h : InvX σ) (h0 : 0 ≤ x) (h1 : x ≤ 6) : InvX (up σ 2 j x) := by
  refine iv_up h (fun q hq e _ _ => ?_)
  have key : ∀ q ∈ ivL, q.1 = 2 → q.2.2.2.1 = 0 ∧ q.2.2.2.2 = 6 := by decide
  obtain ⟨e1, e2⟩ := key q hq e
  rw [e1, e2]; exact ⟨h0, h1⟩
theorem ivu3 {σ : Nat → Int → Int} {j x : Int} (h : InvX σ) (h0 : 0 ≤ x) (h1 : x ≤ 9) : InvX (up σ 3 j x) := by
  refine iv_up h (fun q hq e _ _ => ?_)
  have key : ∀ q ∈ ivL, q.1 = 3 → q.2.2.2.1 = 0 ∧ q.2.2.2.2 = 9 := by decide
  obtain ⟨e1, e2⟩ := key q hq e
  rw [e1, e2]; exact ⟨h0, h1⟩
theorem ivu4 {σ : Nat → Int → Int} {j x : Int} (h : InvX σ) (h0 : 0 ≤ x) (h1 : x ≤ 99) : InvX (up σ 4 j x) := by
  refine iv_up h (fun q hq e _ _ => ?_)
  have key : ∀ q ∈ ivL, q.1 = 4 → q.2.2.2.1 = 0 ∧ q.2.2.2.2 = 99 := by decide
  obtain ⟨e1, e2⟩ := key q hq e
  rw [e1, e2]; exact ⟨h0, h1⟩
theorem ivu7 {σ : Nat → Int → Int} {j x : Int} (h : InvX σ) (h0 : 0 ≤ x) (h1 : x ≤ 5) : InvX (up σ 7 j x) := by
  refine iv_up h (fun q hq e _ _ => ?_)
  have key : ∀ q ∈ ivL, q.1 = 7 → q.2.2.2.1 = 0 ∧ q.2.2.2.2 = 5 := by decide
  obtain ⟨e1, e2⟩ := key q hq e
  rw [e1, e2]; exact ⟨h0, h1⟩
theorem ivu8 {σ : Nat → Int → Int} {j x : Int} (h : InvX σ) (h0 : 0 ≤ x) (h1 : x ≤ 9) : InvX (up σ 8 j x) := by
  refine iv_up h (fun q hq e _ _ => ?_)
  have key : ∀ q ∈ ivL, q.1 = 8 → q.2.2.2.1 = 0 ∧ q.2.2.2.2 = 9 := by decide
  obtain ⟨e1, e2⟩ := key q hq e
  rw [e1, e2]; exact ⟨h0, h1⟩
theorem ivu9 {σ : Nat → Int → Int} {j x : Int} (h : InvX σ) (h0 : 0 ≤ x) (h1 : x ≤ 9) : InvX (up σ 9 j x) := by
  refine iv_up h (fun q hq e _ _ => ?_)
  have key : ∀ q ∈ ivL, q.1 = 9 → q.2.2.2.1 = 0 ∧ q.2.2.2.2 = 9 := by decide
  obtain ⟨e1, e2⟩ := key q hq e
  rw [e1, e2]; exact ⟨h0, h1⟩
theorem ivu10 {σ : Nat → Int → Int} {j x : Int} (h : InvX σ) (h0 : 0 ≤ x) (h1 : x ≤ 8) : InvX (up σ 10 j x) := by
  refine iv_up h (fun q hq e _ _ => ?_)
  have key : ∀ q ∈ ivL, q.1 = 10 → q.2.2.2.1 = 0 ∧ q.2.2.2.2 = 8 := by decide
  obtain ⟨e1, e2⟩ := key q hq e
  rw [e1, e2]; exact ⟨h0, h1⟩
theorem ivu11 {σ : Nat → Int → Int} {j x : Int} (h : InvX σ) (h0 : 0 ≤ x) (h1 : x ≤ 5) : InvX (up σ 11 j x) := by
  refine iv_up h (fun q hq e _ _ => ?_)
  have key : ∀ q ∈ ivL, q.1 = 11 → q.2.2.2.1 = 0 ∧ q.2.2.2.2 = 5 := by decide
  obtain ⟨e1, e2⟩ := key q hq e
  rw [e1, e2]; exact ⟨h0, h1⟩
theorem ivu13 {σ : Nat → Int → Int} {j x : Int} (h : InvX σ) (h0 : 0 ≤ x) (h1 : x ≤ 8) : InvX (up σ 13 j x) := by
  refine iv_up h (fun q hq e _ _ => ?_)
  have key : ∀ q ∈ ivL, q.1 = 13 → q.2.2.2.1 = 0 ∧ q.2.2.2.2 = 8 := by decide
  obtain ⟨e1, e2⟩ := key q hq e
  rw [e1, e2]; exact ⟨h0, h1⟩
theorem ivu14 {σ : Nat → Int → Int} {j x : Int} (h : InvX σ) (h0 : 0 ≤ x) (h1 : x ≤ 5) : InvX (up σ 14 j x) := by
  refine iv_up h (fun q hq e _ _ => ?_)
  have key : ∀ q ∈ ivL, q.1 = 14 → q.2.2.2.1 = 0 ∧ q.2.2.2.2 = 5 := by decide
  obtain ⟨e1, e2⟩ := key q hq e
  rw [e1, e2]; exact ⟨h0, h1⟩
theorem ivu16 {σ : Nat → Int → Int} {j x : Int} (h : InvX σ) (h0 : 0 ≤ x) (h1 : x ≤ 12) : InvX (up σ 16 j x) := by
  refine iv_up h (fun q hq e _ _ => ?_)
  have key : ∀ q ∈ ivL, q.1 = 16 → q.2.2.2.1 = 0 ∧ q.2.2.2.2 = 12 := by decide
  obtain ⟨e1, e2⟩ := key q hq e
  rw [e1, e2]; exact ⟨h0, h1⟩
theorem ivu17 {σ : Nat → Int → Int} {j x : Int} (h : InvX σ) (h0 : 0 ≤ x) (h1 : x ≤ 3) : InvX (up σ 17 j x) := by
  refine iv_up h (fun q hq e _ _ => ?_)
  have key : ∀ q ∈ ivL, q.1 = 17 → q.2.2.2.1 = 0 ∧ q.2.2.2.2 = 3 := by decide
  obtain ⟨e1, e2⟩ := key q hq e
  rw [e1, e2]; exact ⟨h0, h1⟩
theorem ivu18 {σ : Nat → Int → Int} {j x : Int} (h : InvX σ) (h0 : 0 ≤ x) (h1 : x ≤ 5) : InvX (up σ 18 j x) := by
  refine iv_up h (fun q hq e _ _ => ?_)
  have key : ∀ q ∈ ivL, q.1 = 18 → q.2.2.2.1 = 0 ∧ q.2.2.2.2 = 5 := by decide
  obtain ⟨e1, e2⟩ := key q hq e
  rw [e1, e2]; exact ⟨h0, h1⟩
theorem ivu19_1 {σ : Nat → Int → Int} {x : Int} (h : InvX σ) (h0 : 0 ≤ x) (h1 : x ≤ 100) : InvX (up σ 19 1 x) := by
  refine iv_up h (fun q hq e q0 q1 => ?_)
  have key : ∀ q ∈ ivL, q.1 = 19 → (q.2.1 = 1 ∧ q.2.2.2.1 = 0 ∧ q.2.2.2.2 = 100) ∨ q.2.2.1 ≤ 1 ∨ 1 < q.2.1 := by decide
  rcases key q hq e with ⟨-, e1, e2⟩ | e1 | e1
  · rw [e1, e2]; exact ⟨h0, h1⟩
  · omega
  · omega
theorem ivu19_2 {σ : Nat → Int → Int} {x : Int} (h : InvX σ) (h0 : 0 ≤ x) (h1 : x ≤ 100) : InvX (up σ 19 2 x) := by
  refine iv_up h (fun q hq e q0 q1 => ?_)
  have key : ∀ q ∈ ivL, q.1 = 19 → (q.2.1 = 2 ∧ q.2.2.2.1 = 0 ∧ q.2.2.2.2 = 100) ∨ q.2.2.1 ≤ 2 ∨ 2 < q.2.1 := by decide
  rcases key q hq e with ⟨-, e1, e2⟩ | e1 | e1
  · rw [e1, e2]; exact ⟨h0, h1⟩
  · omega
  · omega
theorem ivu19_5 {σ : Nat → Int → Int} {x : Int} (h : InvX σ) (h0 : 0 ≤ x) (h1 : x ≤ 100) : InvX (up σ 19 5 x) := by
  refine iv_up h (fun q hq e q0 q1 => ?_)
  have key : ∀ q ∈ ivL, q.1 = 19 → (q.2.1 = 5 ∧ q.2.2.2.1 = 0 ∧ q.2.2.2.2 = 100) ∨ q.2.2.1 ≤ 5 ∨ 5 < q.2.1 := by decide
  rcases key q hq e with ⟨-, e1, e2⟩ | e1 | e1
  · rw [e1, e2]; exact ⟨h0, h1⟩
  · omega
  · omega
theorem ivu19_6 {σ : Nat → Int → Int} {x : Int} (h : InvX σ) (h0 : 0 ≤ x) (h1 : x ≤ 200) : InvX (up σ 19 6 x) := by
  refine iv_up h (fun q hq e q0 q1 => ?_)
  have key : ∀ q ∈ ivL, q.1 = 19 → (q.2.1 = 6 ∧ q.2.2.2.1 = 0 ∧ q.2.2.2.2 = 200) ∨ q.2.2.1 ≤ 6 ∨ 6 < q.2.1 := by decide
  rcases key q hq e with ⟨-, e1, e2⟩ | e1 | e1
  · rw [e1, e2]; exact ⟨h0, h1⟩
  · omega
  · omega
theorem ivu21 {σ : Nat → Int → Int} {j x : Int} (h : InvX σ) (h0 : 0 ≤ x) (h1 : x ≤ 100000000) : InvX (up σ 21 j x) := by
  refine iv_up h (fun q hq e _ _ => ?_)
  have key : ∀ q ∈ ivL, q.1 = 21 → q.2.2.2.1 = 0 ∧ q.2.2.2.2 = 100000000 := by decide
  obtain ⟨e1, e2⟩ := key q hq e
  rw [e1, e2]; exact ⟨h0, h1⟩
theorem ivu31 {σ : Nat → Int → Int} {j x : Int} (h : InvX σ) (h0 : 0 ≤ x) (h1 : x ≤ 60) : InvX (up σ 31 j x) := by
  refine iv_up h (fun q hq e _ _ => ?_)
  have key : ∀ q ∈ ivL, q.1 = 31 → q.2.2.2.1 = 0 ∧ q.2.2.2.2 = 60 := by decide
  obtain ⟨e1, e2⟩ := key q hq e
  rw [e1, e2]; exact ⟨h0, h1⟩
theorem ivu32 {σ : Nat → Int → Int} {j x : Int} (h : InvX σ) (h0 : -1 ≤ x) (h1 : x ≤ 4) : InvX (up σ 32 j x) := by
  refine iv_up h (fun q hq e _ _ => ?_)
  have key : ∀ q ∈ ivL, q.1 = 32 → q.2.2.2.1 = -1 ∧ q.2.2.2.2 = 4 := by decide
  obtain ⟨e1, e2⟩ := key q hq e
  rw [e1, e2]; exact ⟨h0, h1⟩
theorem ivu33_0 {σ : Nat → Int → Int} {x : Int} (h : InvX σ) (h0 : 0 ≤ x) (h1 : x ≤ 6) : InvX (up σ 33 0 x) := by
  refine iv_up h (fun q hq e q0 q1 => ?_)
  have key : ∀ q ∈ ivL, q.1 = 33 → (q.2.1 = 0 ∧ q.2.2.2.1 = 0 ∧ q.2.2.2.2 = 6) ∨ q.2.2.1 ≤ 0 ∨ 0 < q.2.1 := by decide
  rcases key q hq e with ⟨-, e1, e2⟩ | e1 | e1
  · rw [e1, e2]; exact ⟨h0, h1⟩
  · omega
  · omega
theorem ivu33_6 {σ : Nat → Int → Int} {x : Int} (h : InvX σ) (h0 : 0 ≤ x) (h1 : x ≤ 4) : InvX (up σ 33 6 x) := by
  refine iv_up h (fun q hq e q0 q1 => ?_)
  have key : ∀ q ∈ ivL, q.1 = 33 → (q.2.1 = 6 ∧ q.2.2.2.1 = 0 ∧ q.2.2.2.2 = 4) ∨ q.2.2.1 ≤ 6 ∨ 6 < q.2.1 := by decide
  rcases key q hq e with ⟨-, e1, e2⟩ | e1 | e1
  · rw [e1, e2]; exact ⟨h0, h1⟩
  · omega
  · omega
theorem ivu34 {σ : Nat → Int → Int} {j x : Int} (h : InvX σ) (h0 : 0 ≤ x) (h1 : x ≤ 6) : InvX (up σ 34 j x) := by
  refine iv_up h (fun q hq e _ _ => ?_)
  have key : ∀ q ∈ ivL, q.1 = 34 → q.2.2.2.1 = 0 ∧ q.2.2.2.2 = 6 := by decide
  obtain ⟨e1, e2⟩ := key q hq e
  rw [e1, e2]; exact ⟨h0, h1⟩
theorem ivu35 {σ : Nat → Int → Int} {j x : Int} (h : InvX σ) (h0 : 0 ≤ x) (h1 : x ≤ 9) : InvX (up σ 35 j x) := by
  refine iv_up h (fun q hq e _ _ => ?_)
  have key : ∀ q ∈ ivL, q.1 = 35 → q.2.2.2.1 = 0 ∧ q.2.2.2.2 = 9 := by decide
  obtain ⟨e1, e2⟩ := key q hq e
  rw [e1, e2]; exact ⟨h0, h1⟩
theorem ivu36 {σ : Nat → Int → Int} {j x : Int} (h : InvX σ) (h0 : 0 ≤ x) (h1 : x ≤ 99) : InvX (up σ 36 j x) := by
  refine iv_up h (fun q hq e _ _ => ?_)
  have key : ∀ q ∈ ivL, q.1 = 36 → q.2.2.2.1 = 0 ∧ q.2.2.2.2 = 99 := by decide
  obtain ⟨e1, e2⟩ := key q hq e
  rw [e1, e2]; exact ⟨h0, h1⟩
theorem ivu39 {σ : Nat → Int → Int} {j x : Int} (h : InvX σ) (h0 : 0 ≤ x) (h1 : x ≤ 5) : InvX (up σ 39 j x) := by
  refine iv_up h (fun q hq e _ _ => ?_)
  have key : ∀ q ∈ ivL, q.1 = 39 → q.2.2.2.1 = 0 ∧ q.2.2.2.2 = 5 := by decide
  obtain ⟨e1, e2⟩ := key q hq e
  rw [e1, e2]; exact ⟨h0, h1⟩
theorem ivu40 {σ : Nat → Int → Int} {j x : Int} (h : InvX σ) (h0 : 0 ≤ x) (h1 : x ≤ 9) : InvX (up σ 40 j x) := by
  refine iv_up h (fun q hq e _ _ => ?_)
  have key : ∀ q ∈ ivL, q.1 = 40 → q.2.2.2.1 = 0 ∧ q.2.2.2.2 = 9 := by decide
  obtain ⟨e1, e2⟩ := key q hq e
  rw [e1, e2]; exact ⟨h0, h1⟩
theorem ivu41 {σ : Nat → Int → Int} {j x : Int} (h : InvX σ) (h0 : 0 ≤ x) (h1 : x ≤ 9) : InvX (up σ 41 j x) := by
  refine iv_up h (fun q hq e _ _ => ?_)
  have key : ∀ q ∈ ivL, q.1 = 41 → q.2.2.2.1 = 0 ∧ q.2.2.2.2 = 9 := by decide
  obtain ⟨e1, e2⟩ := key q hq e
  rw [e1, e2]; exact ⟨h0, h1⟩
theorem ivu42 {σ : Nat → Int → Int} {j x : Int} (h : InvX σ) (h0 : 0 ≤ x) (h1 : x ≤ 8) : InvX (up σ 42 j x) := by
  refine iv_up h (fun q hq e _ _ => ?_)
  have key : ∀ q ∈ ivL, q.1 = 42 → q.2.2.2.1 = 0 ∧ q.2.2.2.2 = 8 := by decide
  obtain ⟨e1, e2⟩ := key q hq e
  rw [e1, e2]; exact ⟨h0, h1⟩
theorem ivu43 {σ : Nat → Int → Int} {j x : Int} (h : InvX σ) (h0 : 0 ≤ x) (h1 : x ≤ 5) : InvX (up σ 43 j x) := by
  refine iv_up h (fun q hq e _ _ => ?_)
  have key : ∀ q ∈ ivL, q.1 = 43 → q.2.2.2.1 = 0 ∧ q.2.2.2.2 = 5 := by decide
  obtain ⟨e1, e2⟩ := key q hq e
  rw [e1, e2]; exact ⟨h0, h1⟩
theorem ivu45 {σ : Nat → Int → Int} {j x : Int} (h : InvX σ) (h0 : 0 ≤ x) (h1 : x ≤ 8) : InvX (up σ 45 j x) := by
  refine iv_up h (fun q hq e _ _ => ?_)
  have key : ∀ q ∈ ivL, q.1 = 45 → q.2.2.2.1 = 0 ∧ q.2.2.2.2 = 8 := by decide
  obtain ⟨e1, e2⟩ := key q hq e
  rw [e1, e2]; exact ⟨h0, h1⟩
theorem ivu46 {σ : Nat → Int → Int} {j x : Int} (h : InvX σ) (h0 : 0 ≤ x) (h1 : x ≤ 5) : InvX (up σ 46 j x) := by
  refine iv_up h (fun q hq e _ _ => ?_)
  have key : ∀ q ∈ ivL, q.1 = 46 → q.2.2.2.1 = 0 ∧ q.2.2.2.2 = 5 := by decide
  obtain ⟨e1, e2⟩ := key q hq e
  rw [e1, e2]; exact ⟨h0, h1⟩
theorem ivu48 {σ : Nat → Int → Int} {j x : Int} (h : InvX σ) (h0 : 0 ≤ x) (h1 : x ≤ 12) : InvX (up σ 48 j x) := by
  refine iv_up h (fun q hq e _ _ => ?_)
  have key : ∀ q ∈ ivL, q.1 = 48 → q.2.2.2.1 = 0 ∧ q.2.2.2.2 = 12 := by decide
  obtain ⟨e1, e2⟩ := key q hq e
  rw [e1, e2]; exact ⟨h0, h1⟩
theorem ivu49 {σ : Nat → Int → Int} {j x : Int} (h : InvX σ) (h0 : 0 ≤ x) (h1 : x ≤ 3) : InvX (up σ 49 j x) := by
  refine iv_up h (fun q hq e _ _ => ?_)
  have key : ∀ q ∈ ivL, q.1 = 49 → q.2.2.2.1 = 0 ∧ q.2.2.2.2 = 3 := by decide
  obtain ⟨e1, e2⟩ := key q hq e
  rw [e1, e2]; exact ⟨h0, h1⟩
theorem ivu50 {σ : Nat → Int → Int} {j x : Int} (h : InvX σ) (h0 : 0 ≤ x) (h1 : x ≤ 5) : InvX (up σ 50 j x) := by
  refine iv_up h (fun q hq e _ _ => ?_)
  have key : ∀ q ∈ ivL, q.1 = 50 → q.2.2.2.1 = 0 ∧ q.2.2.2.2 = 5 := by decide
  obtain ⟨e1, e2⟩ := key q hq e
  rw [e1, e2]; exact ⟨h0, h1⟩
theorem ivu51_3 {σ : Nat → Int → Int} {x : Int} (h : InvX σ) (h0 : 0 ≤ x) (h1 : x ≤ 6) : InvX (up σ 51 3 x) := by
  refine iv_up h (fun q hq e q0 q1 => ?_)
  have key : ∀ q ∈ ivL, q.1 = 51 → (q.2.1 = 3 ∧ q.2.2.2.1 = 0 ∧ q.2.2.2.2 = 6) ∨ q.2.2.1 ≤ 3 ∨ 3 < q.2.1 := by decide
  rcases key q hq e with ⟨-, e1, e2⟩ | e1 | e1
  · rw [e1, e2]; exact ⟨h0, h1⟩
  · omega
  · omega
theorem ivu51_5 {σ : Nat → Int → Int} {x : Int} (h : InvX σ) (h0 : -9900 ≤ x) (h1 : x ≤ 9900) : InvX (up σ 51 5 x) := by
  refine iv_up h (fun q hq e q0 q1 => ?_)
  have key : ∀ q ∈ ivL, q.1 = 51 → (q.2.1 = 5 ∧ q.2.2.2.1 = -9900 ∧ q.2.2.2.2 = 9900) ∨ q.2.2.1 ≤ 5 ∨ 5 < q.2.1 := by decide
  rcases key q hq e with ⟨-, e1, e2⟩ | e1 | e1
  · rw [e1, e2]; exact ⟨h0, h1⟩
  · omega
  · omega
theorem ivu51_6 {σ : Nat → Int → Int} {x : Int} (h : InvX σ) (h0 : -9900 ≤ x) (h1 : x ≤ 9900) : InvX (up σ 51 6 x) := by
  refine iv_up h (fun q hq e q0 q1 => ?_)
  have key : ∀ q ∈ ivL, q.1 = 51 → (q.2.1 = 6 ∧ q.2.2.2.1 = -9900 ∧ q.2.2.2.2 = 9900) ∨ q.2.2.1 ≤ 6 ∨ 6 < q.2.1 := by decide
  rcases key q hq e with ⟨-, e1, e2⟩ | e1 | e1
  · rw [e1, e2]; exact ⟨h0, h1⟩
  · omega
  · omega
theorem ivu59 {σ : Nat → Int → Int} {j x : Int} (h : InvX σ) (h0 : 0 ≤ x) (h1 : x ≤ 100) : InvX (up σ 59 j x) := by
  refine iv_up h (fun q hq e _ _ => ?_)
  have key : ∀ q ∈ ivL, q.1 = 59 → q.2.2.2.1 = 0 ∧ q.2.2.2.2 = 100 := by decide
  obtain ⟨e1, e2⟩ := key q hq e
  rw [e1, e2]; exact ⟨h0, h1⟩
theorem ivu63 {σ : Nat → Int → Int} {j x : Int} (h : InvX σ) (h0 : 0 ≤ x) (h1 : x ≤ 5) : InvX (up σ 63 j x) := by
  refine iv_up h (fun q hq e _ _ => ?_)
  have key : ∀ q ∈ ivL, q.1 = 63 → q.2.2.2.1 = 0 ∧ q.2.2.2.2 = 5 := by decide
  obtain ⟨e1, e2⟩ := key q hq e
  rw [e1, e2]; exact ⟨h0, h1⟩
theorem ivu65 {σ : Nat → Int → Int} {j x : Int} (h : InvX σ) (h0 : 0 ≤ x) (h1 : x ≤ 5) : InvX (up σ 65 j x) := by
  refine iv_up h (fun q hq e _ _ => ?_)
  have key : ∀ q ∈ ivL, q.1 = 65 → q.2.2.2.1 = 0 ∧ q.2.2.2.2 = 5 := by decide
  obtain ⟨e1, e2⟩ := key q hq e
  rw [e1, e2]; exact ⟨h0, h1⟩
theorem ivu66_5 {σ : Nat → Int → Int} {x : Int} (h : InvX σ) (h0 : 0 ≤ x) (h1 : x ≤ 5) : InvX (up σ 66 5 x) := by
  refine iv_up h (fun q hq e q0 q1 => ?_)
  have key : ∀ q ∈ ivL, q.1 = 66 → (q.2.1 = 5 ∧ q.2.2.2.1 = 0 ∧ q.2.2.2.2 = 5) ∨ q.2.2.1 ≤ 5 ∨ 5 < q.2.1 := by decide
  rcases key q hq e with ⟨-, e1, e2⟩ | e1 | e1
  · rw [e1, e2]; exact ⟨h0, h1⟩
  · omega
  · omega
theorem ivu66_8 {σ : Nat → Int → Int} {x : Int} (h : InvX σ) (h0 : 0 ≤ x) (h1 : x ≤ 9) : InvX (up σ 66 8 x) := by
  refine iv_up h (fun q hq e q0 q1 => ?_)
  have key : ∀ q ∈ ivL, q.1 = 66 → (q.2.1 = 8 ∧ q.2.2.2.1 = 0 ∧ q.2.2.2.2 = 9) ∨ q.2.2.1 ≤ 8 ∨ 8 < q.2.1 := by decide
  rcases key q hq e with ⟨-, e1, e2⟩ | e1 | e1
  · rw [e1, e2]; exact ⟨h0, h1⟩
  · omega
  · omega
theorem ivu67 {σ : Nat → Int → Int} {j x : Int} (h : InvX σ) (h0 : -9900 ≤ x) (h1 : x ≤ 9900) : InvX (up σ 67 j x) := by
  refine iv_up h (fun q hq e _ _ => ?_)
  have key : ∀ q ∈ ivL, q.1 = 67 → q.2.2.2.1 = -9900 ∧ q.2.2.2.2 = 9900 := by decide
  obtain ⟨e1, e2⟩ := key q hq e
  rw [e1, e2]; exact ⟨h0, h1⟩
theorem ivu68 {σ : Nat → Int → Int} {j x : Int} (h : InvX σ) (h0 : -1000000 ≤ x) (h1 : x ≤ 1000000) : InvX (up σ 68 j x) := by
  refine iv_up h (fun q hq e _ _ => ?_)
  have key : ∀ q ∈ ivL, q.1 = 68 → q.2.2.2.1 = -1000000 ∧ q.2.2.2.2 = 1000000 := by decide
  obtain ⟨e1, e2⟩ := key q hq e
  rw [e1, e2]; exact ⟨h0, h1⟩
theorem iv_fr {F : Nat → Int → Bool} {σ σ' : Nat → Int → Int} (h : InvX σ) (hF : Fr F σ σ') (hd : ∀ q ∈ ivL, ∀ j, q.2.1 ≤ j → j < q.2.2.1 → F q.1 j = false) : InvX σ' := by
  intro q hq j h0 h1
  rw [hF q.1 j (hd q hq j h0 h1)]
  exact h q hq j h0 h1
def jvL : List (Nat × Int × Int × Int × Int) := [(69, 0, 1, 0, 6), (69, 1, 2, 0, 4), (69, 10, 11, 0, 6), (69, 11, 12, -1, 5), (69, 12, 13, 0, 100), (69, 13, 14, 0, 100), (69, 14, 15, 0, 99), (69, 23, 24, 0, 600), (69, 24, 25, 0, 101), (69, 28, 29, 0, 3), (69, 29, 30, 0, 2000000), (69, 30, 31, 0, 5), (69, 31, 32, 0, 9), (69, 34, 35, 0, 8), (69, 38, 39, 0, 8), (69, 41, 42, 0, 12), (69, 45, 46, -1, 5), (69, 46, 47, 0, 6), (69, 47, 48, 0, 4), (69, 48, 49, 0, 8), (69, 49, 50, 0, 8), (69, 50, 51, 0, 12), (69, 64, 65, 0, 1000), (70, 0, 6, 0, 6), (71, 0, 6, 0, 9), (72, 0, 6, 0, 99), (75, 0, 4, 0, 5), (76, 0, 4, 0, 9), (77, 0, 4, 0, 9), (79, 0, 6, 0, 10), (81, 0, 60, 0, 99), (82, 0, 60, 0, 600), (83, 0, 60, 0, 600), (87, 0, 100, 0, 1), (88, 0, 8, 0, 5), (89, 0, 5, 0, 5), (91, 0, 8, 0, 5), (92, 0, 8, 0, 1), (93, 0, 12, 0, 3), (94, 0, 12, 0, 5), (95, 0, 6, 0, 6), (96, 0, 6, 0, 9), (97, 0, 6, 0, 99), (100, 0, 4, 0, 5), (101, 0, 4, 0, 9), (102, 0, 4, 0, 9), (103, 0, 8, 0, 5), (104, 0, 8, 0, 5), (105, 0, 12, 0, 3), (106, 0, 12, 0, 5), (107, 0, 8, 0, 1), (109, 0, 6, -1, 4), (110, 0, 6, 0, 60), (86, 0, 13, 0, 127)]
def InvJ (σ : Nat → Int → Int) : Prop := ∀ q ∈ jvL, ∀ j, q.2.1 ≤ j → j < q.2.2.1 → q.2.2.2.1 ≤ σ q.1 j ∧ σ q.1 j ≤ q.2.2.2.2
theorem jv69_0 {σ : Nat → Int → Int} (h : InvJ σ) (j : Int) (h0 : 0 ≤ j) (h1 : j < 1) : 0 ≤ σ 69 j ∧ σ 69 j ≤ 6 := h (69, 0, 1, 0, 6) (List.mem_of_getElem? (i := 0) rfl) j h0 h1
theorem jv69_1 {σ : Nat → Int → Int} (h : InvJ σ) (j : Int) (h0 : 1 ≤ j) (h1 : j < 2) : 0 ≤ σ 69 j ∧ σ 69 j ≤ 4 := h (69, 1, 2, 0, 4) (List.mem_of_getElem? (i := 1) rfl) j h0 h1
theorem jv69_10 {σ : Nat → Int → Int} (h : InvJ σ) (j : Int) (h0 : 10 ≤ j) (h1 : j < 11) : 0 ≤ σ 69 j ∧ σ 69 j ≤ 6 := h (69, 10, 11, 0, 6) (List.mem_of_getElem? (i := 2) rfl) j h0 h1
theorem jv69_11 {σ : Nat → Int → Int} (h : InvJ σ) (j : Int) (h0 : 11 ≤ j) (h1 : j < 12) : -1 ≤ σ 69 j ∧ σ 69 j ≤ 5 := h (69, 11, 12, -1, 5) (List.mem_of_getElem? (i := 3) rfl) j h0 h1
theorem jv69_12 {σ : Nat → Int → Int} (h : InvJ σ) (j : Int) (h0 : 12 ≤ j) (h1 : j < 13) : 0 ≤ σ 69 j ∧ σ 69 j ≤ 100 := h (69, 12, 13, 0, 100) (List.mem_of_getElem? (i := 4) rfl) j h0 h1
theorem jv69_13 {σ : Nat → Int → Int} (h : InvJ σ) (j : Int) (h0 : 13 ≤ j) (h1 : j < 14) : 0 ≤ σ 69 j ∧ σ 69 j ≤ 100 := h (69, 13, 14, 0, 100) (List.mem_of_getElem? (i := 5) rfl) j h0 h1
theorem jv69_14 {σ : Nat → Int → Int} (h : InvJ σ) (j : Int) (h0 : 14 ≤ j) (h1 : j < 15) : 0 ≤ σ 69 j ∧ σ 69 j ≤ 99 := h (69, 14, 15, 0, 99) (List.mem_of_getElem? (i := 6) rfl) j h0 h1
theorem jv69_23 {σ : Nat → Int → Int} (h : InvJ σ) (j : Int) (h0 : 23 ≤ j) (h1 : j < 24) : 0 ≤ σ 69 j ∧ σ 69 j ≤ 600 := h (69, 23, 24, 0, 600) (List.mem_of_getElem? (i := 7) rfl) j h0 h1
theorem jv69_24 {σ : Nat → Int → Int} (h : InvJ σ) (j : Int) (h0 : 24 ≤ j) (h1 : j < 25) : 0 ≤ σ 69 j ∧ σ 69 j ≤ 101 := h (69, 24, 25, 0, 101) (List.mem_of_getElem? (i := 8) rfl) j h0 h1
theorem jv69_28 {σ : Nat → Int → Int} (h : InvJ σ) (j : Int) (h0 : 28 ≤ j) (h1 : j < 29) : 0 ≤ σ 69 j ∧ σ 69 j ≤ 3 := h (69, 28, 29, 0, 3) (List.mem_of_getElem? (i := 9) rfl) j h0 h1
theorem jv69_29 {σ : Nat → Int → Int} (h : InvJ σ) (j : Int) (h0 : 29 ≤ j) (h1 : j < 30) : 0 ≤ σ 69 j ∧ σ 69 j ≤ 2000000 := h (69, 29, 30, 0, 2000000) (List.mem_of_getElem? (i := 10) rfl) j h0 h1
theorem jv69_30 {σ : Nat → Int → Int} (h : InvJ σ) (j : Int) (h0 : 30 ≤ j) (h1 : j < 31) : 0 ≤ σ 69 j ∧ σ 69 j ≤ 5 := h (69, 30, 31, 0, 5) (List.mem_of_getElem? (i := 11) rfl) j h0 h1
theorem jv69_31 {σ : Nat → Int → Int} (h : InvJ σ) (j : Int) (h0 : 31 ≤ j) (h1 : j < 32) : 0 ≤ σ 69 j ∧ σ 69 j ≤ 9 := h (69, 31, 32, 0, 9) (List.mem_of_getElem? (i := 12) rfl) j h0 h1
theorem jv69_34 {σ : Nat → Int → Int} (h : InvJ σ) (j : Int) (h0 : 34 ≤ j) (h1 : j < 35) : 0 ≤ σ 69 j ∧ σ 69 j ≤ 8 := h (69, 34, 35, 0, 8) (List.mem_of_getElem? (i := 13) rfl) j h0 h1
theorem jv69_38 {σ : Nat → Int → Int} (h : InvJ σ) (j : Int) (h0 : 38 ≤ j) (h1 : j < 39) : 0 ≤ σ 69 j ∧ σ 69 j ≤ 8 := h (69, 38, 39, 0, 8) (List.mem_of_getElem? (i := 14) rfl) j h0 h1
theorem jv69_41 {σ : Nat → Int → Int} (h : InvJ σ) (j : Int) (h0 : 41 ≤ j) (h1 : j < 42) : 0 ≤ σ 69 j ∧ σ 69 j ≤ 12 := h (69, 41, 42, 0, 12) (List.mem_of_getElem? (i := 15) rfl) j h0 h1
theorem jv69_45 {σ : Nat → Int → Int} (h : InvJ σ) (j : Int) (h0 : 45 ≤ j) (h1 : j < 46) : -1 ≤ σ 69 j ∧ σ 69 j ≤ 5 := h (69, 45, 46, -1, 5) (List.mem_of_getElem? (i := 16) rfl) j h0 h1
theorem jv69_46 {σ : Nat → Int → Int} (h : InvJ σ) (j : Int) (h0 : 46 ≤ j) (h1 : j < 47) : 0 ≤ σ 69 j ∧ σ 69 j ≤ 6 := h (69, 46, 47, 0, 6) (List.mem_of_getElem? (i := 17) rfl) j h0 h1
theorem jv69_47 {σ : Nat → Int → Int} (h : InvJ σ) (j : Int) (h0 : 47 ≤ j) (h1 : j < 48) : 0 ≤ σ 69 j ∧ σ 69 j ≤ 4 := h (69, 47, 48, 0, 4) (List.mem_of_getElem? (i := 18) rfl) j h0 h1
theorem jv69_48 {σ : Nat → Int → Int} (h : InvJ σ) (j : Int) (h0 : 48 ≤ j) (h1 : j < 49) : 0 ≤ σ 69 j ∧ σ 69 j ≤ 8 := h (69, 48, 49, 0, 8) (List.mem_of_getElem? (i := 19) rfl) j h0 h1
theorem jv69_49 {σ : Nat → Int → Int} (h : InvJ σ) (j : Int) (h0 : 49 ≤ j) (h1 : j < 50) : 0 ≤ σ 69 j ∧ σ 69 j ≤ 8 := h (69, 49, 50, 0, 8) (List.mem_of_getElem? (i := 20) rfl) j h0 h1
theorem jv69_50 {σ : Nat → Int → Int} (h : InvJ σ) (j : Int) (h0 : 50 ≤ j) (h1 : j < 51) : 0 ≤ σ 69 j ∧ σ 69 j ≤ 12 := h (69, 50, 51, 0, 12) (List.mem_of_getElem? (i := 21) rfl) j h0 h1
theorem jv69_64 {σ : Nat → Int → Int} (h : InvJ σ) (j : Int) (h0 : 64 ≤ j) (h1 : j < 65) : 0 ≤ σ 69 j ∧ σ 69 j ≤ 1000 := h (69, 64, 65, 0, 1000) (List.mem_of_getElem? (i := 22) rfl) j h0 h1
theorem jv70_0 {σ : Nat → Int → Int} (h : InvJ σ) (j : Int) (h0 : 0 ≤ j) (h1 : j < 6) : 0 ≤ σ 70 j ∧ σ 70 j ≤ 6 := h (70, 0, 6, 0, 6) (List.mem_of_getElem? (i := 23) rfl) j h0 h1
theorem jv71_0 {σ : Nat → Int → Int} (h : InvJ σ) (j : Int) (h0 : 0 ≤ j) (h1 : j < 6) : 0 ≤ σ 71 j ∧ σ 71 j ≤ 9 := h (71, 0, 6, 0, 9) (List.mem_of_getElem? (i := 24) rfl) j h0 h1
theorem jv72_0 {σ : Nat → Int → Int} (h : InvJ σ) (j : Int) (h0 : 0 ≤ j) (h1 : j < 6) : 0 ≤ σ 72 j ∧ σ 72 j ≤ 99 := h (72, 0, 6, 0, 99) (List.mem_of_getElem? (i := 25) rfl) j h0 h1
theorem jv75_0 {σ : Nat → Int → Int} (h : InvJ σ) (j : Int) (h0 : 0 ≤ j) (h1 : j < 4) : 0 ≤ σ 75 j ∧ σ 75 j ≤ 5 := h (75, 0, 4, 0, 5) (List.mem_of_getElem? (i := 26) rfl) j h0 h1
theorem jv76_0 {σ : Nat → Int → Int} (h : InvJ σ) (j : Int) (h0 : 0 ≤ j) (h1 : j < 4) : 0 ≤ σ 76 j ∧ σ 76 j ≤ 9 := h (76, 0, 4, 0, 9) (List.mem_of_getElem? (i := 27) rfl) j h0 h1
theorem jv77_0 {σ : Nat → Int → Int} (h : InvJ σ) (j : Int) (h0 : 0 ≤ j) (h1 : j < 4) : 0 ≤ σ 77 j ∧ σ 77 j ≤ 9 := h (77, 0, 4, 0, 9) (List.mem_of_getElem? (i := 28) rfl) j h0 h1
theorem jv79_0 {σ : Nat → Int → Int} (h : InvJ σ) (j : Int) (h0 : 0 ≤ j) (h1 : j < 6) : 0 ≤ σ 79 j ∧ σ 79 j ≤ 10 := h (79, 0, 6, 0, 10) (List.mem_of_getElem? (i := 29) rfl) j h0 h1
theorem jv81_0 {σ : Nat → Int → Int} (h : InvJ σ) (j : Int) (h0 : 0 ≤ j) (h1 : j < 60) : 0 ≤ σ 81 j ∧ σ 81 j ≤ 99 := h (81, 0, 60, 0, 99) (List.mem_of_getElem? (i := 30) rfl) j h0 h1
theorem jv82_0 {σ : Nat → Int → Int} (h : InvJ σ) (j : Int) (h0 : 0 ≤ j) (h1 : j < 60) : 0 ≤ σ 82 j ∧ σ 82 j ≤ 600 := h (82, 0, 60, 0, 600) (List.mem_of_getElem? (i := 31) rfl) j h0 h1
theorem jv83_0 {σ : Nat → Int → Int} (h : InvJ σ) (j : Int) (h0 : 0 ≤ j) (h1 : j < 60) : 0 ≤ σ 83 j ∧ σ 83 j ≤ 600 := h (83, 0, 60, 0, 600) (List.mem_of_getElem? (i := 32) rfl) j h0 h1
theorem jv87_0 {σ : Nat → Int → Int} (h : InvJ σ) (j : Int) (h0 : 0 ≤ j) (h1 : j < 100) : 0 ≤ σ 87 j ∧ σ 87 j ≤ 1 := h (87, 0, 100, 0, 1) (List.mem_of_getElem? (i := 33) rfl) j h0 h1
theorem jv88_0 {σ : Nat → Int → Int} (h : InvJ σ) (j : Int) (h0 : 0 ≤ j) (h1 : j < 8) : 0 ≤ σ 88 j ∧ σ 88 j ≤ 5 := h (88, 0, 8, 0, 5) (List.mem_of_getElem? (i := 34) rfl) j h0 h1
theorem jv89_0 {σ : Nat → Int → Int} (h : InvJ σ) (j : Int) (h0 : 0 ≤ j) (h1 : j < 5) : 0 ≤ σ 89 j ∧ σ 89 j ≤ 5 := h (89, 0, 5, 0, 5) (List.mem_of_getElem? (i := 35) rfl) j h0 h1
theorem jv91_0 {σ : Nat → Int → Int} (h : InvJ σ) (j : Int) (h0 : 0 ≤ j) (h1 : j < 8) : 0 ≤ σ 91 j ∧ σ 91 j ≤ 5 := h (91, 0, 8, 0, 5) (List.mem_of_getElem? (i := 36) rfl) j h0 h1
theorem jv92_0 {σ : Nat → Int → Int} (h : InvJ σ) (j : Int) (h0 : 0 ≤ j) (h1 : j < 8) : 0 ≤ σ 92 j ∧ σ 92 j ≤ 1 := h (92, 0, 8, 0, 1) (List.mem_of_getElem? (i := 37) rfl) j h0 h1
theorem jv93_0 {σ : Nat → Int → Int} (h : InvJ σ) (j : Int) (h0 : 0 ≤ j) (h1 : j < 12) : 0 ≤ σ 93 j ∧ σ 93 j ≤ 3 := h (93, 0, 12, 0, 3) (List.mem_of_getElem? (i := 38) rfl) j h0 h1
theorem jv94_0 {σ : Nat → Int → Int} (h : InvJ σ) (j : Int) (h0 : 0 ≤ j) (h1 : j < 12) : 0 ≤ σ 94 j ∧ σ 94 j ≤ 5 := h (94, 0, 12, 0, 5) (List.mem_of_getElem? (i := 39) rfl) j h0 h1
theorem jv95_0 {σ : Nat → Int → Int} (h : InvJ σ) (j : Int) (h0 : 0 ≤ j) (h1 : j < 6) : 0 ≤ σ 95 j ∧ σ 95 j ≤ 6 := h (95, 0, 6, 0, 6) (List.mem_of_getElem? (i := 40) rfl) j h0 h1
theorem jv96_0 {σ : Nat → Int → Int} (h : InvJ σ) (j : Int) (h0 : 0 ≤ j) (h1 : j < 6) : 0 ≤ σ 96 j ∧ σ 96 j ≤ 9 := h (96, 0, 6, 0, 9) (List.mem_of_getElem? (i := 41) rfl) j h0 h1
theorem jv97_0 {σ : Nat → Int → Int} (h : InvJ σ) (j : Int) (h0 : 0 ≤ j) (h1 : j < 6) : 0 ≤ σ 97 j ∧ σ 97 j ≤ 99 := h (97, 0, 6, 0, 99) (List.mem_of_getElem? (i := 42) rfl) j h0 h1
theorem jv100_0 {σ : Nat → Int → Int} (h : InvJ σ) (j : Int) (h0 : 0 ≤ j) (h1 : j < 4) : 0 ≤ σ 100 j ∧ σ 100 j ≤ 5 := h (100, 0, 4, 0, 5) (List.mem_of_getElem? (i := 43) rfl) j h0 h1
theorem jv101_0 {σ : Nat → Int → Int} (h : InvJ σ) (j : Int) (h0 : 0 ≤ j) (h1 : j < 4) : 0 ≤ σ 101 j ∧ σ 101 j ≤ 9 := h (101, 0, 4, 0, 9) (List.mem_of_getElem? (i := 44) rfl) j h0 h1
theorem jv102_0 {σ : Nat → Int → Int} (h : InvJ σ) (j : Int) (h0 : 0 ≤ j) (h1 : j < 4) : 0 ≤ σ 102 j ∧ σ 102 j ≤ 9 := h (102, 0, 4, 0, 9) (List.mem_of_getElem? (i := 45) rfl) j h0 h1
theorem jv103_0 {σ : Nat → Int → Int} (h : InvJ σ) (j : Int) (h0 : 0 ≤ j) (h1 : j < 8) : 0 ≤ σ 103 j ∧ σ 103 j ≤ 5 := h (103, 0, 8, 0, 5) (List.mem_of_getElem? (i := 46) rfl) j h0 h1
theorem jv104_0 {σ : Nat → Int → Int} (h : InvJ σ) (j : Int) (h0 : 0 ≤ j) (h1 : j < 8) : 0 ≤ σ 104 j ∧ σ 104 j ≤ 5 := h (104, 0, 8, 0, 5) (List.mem_of_getElem? (i := 47) rfl) j h0 h1
theorem jv105_0 {σ : Nat → Int → Int} (h : InvJ σ) (j : Int) (h0 : 0 ≤ j) (h1 : j < 12) : 0 ≤ σ 105 j ∧ σ 105 j ≤ 3 := h (105, 0, 12, 0, 3) (List.mem_of_getElem? (i := 48) rfl) j h0 h1
theorem jv106_0 {σ : Nat → Int → Int} (h : InvJ σ) (j : Int) (h0 : 0 ≤ j) (h1 : j < 12) : 0 ≤ σ 106 j ∧ σ 106 j ≤ 5 := h (106, 0, 12, 0, 5) (List.mem_of_getElem? (i := 49) rfl) j h0 h1
theorem jv107_0 {σ : Nat → Int → Int} (h : InvJ σ) (j : Int) (h0 : 0 ≤ j) (h1 : j < 8) : 0 ≤ σ 107 j ∧ σ 107 j ≤ 1 := h (107, 0, 8, 0, 1) (List.mem_of_getElem? (i := 50) rfl) j h0 h1
theorem jv109_0 {σ : Nat → Int → Int} (h : InvJ σ) (j : Int) (h0 : 0 ≤ j) (h1 : j < 6) : -1 ≤ σ 109 j ∧ σ 109 j ≤ 4 := h (109, 0, 6, -1, 4) (List.mem_of_getElem? (i := 51) rfl) j h0 h1
theorem jv110_0 {σ : Nat → Int → Int} (h : InvJ σ) (j : Int) (h0 : 0 ≤ j) (h1 : j < 6) : 0 ≤ σ 110 j ∧ σ 110 j ≤ 60 := h (110, 0, 6, 0, 60) (List.mem_of_getElem? (i := 52) rfl) j h0 h1
theorem jv86_0 {σ : Nat → Int → Int} (h : InvJ σ) (j : Int) (h0 : 0 ≤ j) (h1 : j < 13) : 0 ≤ σ 86 j ∧ σ 86 j ≤ 127 := h (86, 0, 13, 0, 127) (List.mem_of_getElem? (i := 53) rfl) j h0 h1
def jvC (k : Nat) (j : Int) : Bool := jvL.all (fun q => !(q.1 == k) || decide (j < q.2.1) || decide (q.2.2.1 ≤ j))
theorem jv_up {σ : Nat → Int → Int} {k : Nat} {j x : Int} (h : InvJ σ) (hx : ∀ q ∈ jvL, q.1 = k → q.2.1 ≤ j → j < q.2.2.1 → q.2.2.2.1 ≤ x ∧ x ≤ q.2.2.2.2) : InvJ (up σ k j x) := by
  intro q hq j' h0 h1
  by_cases e : q.1 = k ∧ j' = j
  · obtain ⟨e1, rfl⟩ := e
    rw [show up σ k j' x q.1 j' = x from if_pos ⟨e1, rfl⟩]
    exact hx q hq e1 h0 h1
  · rw [show up σ k j x q.1 j' = σ q.1 j' from if_neg e]
    exact h q hq j' h0 h1
theorem jv_free {σ : Nat → Int → Int} {k : Nat} {j x : Int} (h : InvJ σ) (hf : jvC k j = true) : InvJ (up σ k j x) := by
  refine jv_up h (fun q hq e h0 h1 => ?_)
  have := List.all_eq_true.mp hf q hq
  simp [e] at this
  omega
theorem jv_cell {σ : Nat → Int → Int} {k : Nat} {j x : Int} (h : InvJ σ) (hf : jvL.all (fun q => !(q.1 == k)) = true) : InvJ (up σ k j x) := by
  refine jv_up h (fun q hq e h0 h1 => ?_)
  have := List.all_eq_true.mp hf q hq
  simp [e] at this
theorem jv_cellV {σ : Nat → Int → Int} {k : Nat} {j x : Int} (h : InvJ σ) (hk : (25 ≤ k ∧ k ≤ 30) ∨ (53 ≤ k ∧ k ≤ 58)) : InvJ (up σ k j x) := by
  refine jv_up h (fun q hq e h0 h1 => ?_)
  have key : ∀ q ∈ jvL, ¬ ((25 ≤ q.1 ∧ q.1 ≤ 30) ∨ (53 ≤ q.1 ∧ q.1 ≤ 58)) := by decide
  exact absurd (e ▸ hk) (key q hq)
theorem jvu69_0 {σ : Nat → Int → Int} {x : Int} (h : InvJ σ) (h0 : 0 ≤ x) (h1 : x ≤ 6) : InvJ (up σ 69 0 x) := by
  refine jv_up h (fun q hq e q0 q1 => ?_)
  have key : ∀ q ∈ jvL, q.1 = 69 → (q.2.1 = 0 ∧ q.2.2.2.1 = 0 ∧ q.2.2.2.2 = 6) ∨ q.2.2.1 ≤ 0 ∨ 0 < q.2.1 := by decide
  rcases key q hq e with ⟨-, e1, e2⟩ | e1 | e1
  · rw [e1, e2]; exact ⟨h0, h1⟩
  · omega
  · omega
theorem jvu69_1 {σ : Nat → Int → Int} {x : Int} (h : InvJ σ) (h0 : 0 ≤ x) (h1 : x ≤ 4) : InvJ (up σ 69 1 x) := by
  refine jv_up h (fun q hq e q0 q1 => ?_)
  have key : ∀ q ∈ jvL, q.1 = 69 → (q.2.1 = 1 ∧ q.2.2.2.1 = 0 ∧ q.2.2.2.2 = 4) ∨ q.2.2.1 ≤ 1 ∨ 1 < q.2.1 := by decide
  rcases key q hq e with ⟨-, e1, e2⟩ | e1 | e1
  · rw [e1, e2]; exact ⟨h0, h1⟩
  · omega
  · omega
theorem jvu69_10 {σ : Nat → Int → Int} {x : Int} (h : InvJ σ) (h0 : 0 ≤ x) (h1 : x ≤ 6) : InvJ (up σ 69 10 x) := by
  refine jv_up h (fun q hq e q0 q1 => ?_)
  have key : ∀ q ∈ jvL, q.1 = 69 → (q.2.1 = 10 ∧ q.2.2.2.1 = 0 ∧ q.2.2.2.2 = 6) ∨ q.2.2.1 ≤ 10 ∨ 10 < q.2.1 := by decide
  rcases key q hq e with ⟨-, e1, e2⟩ | e1 | e1
  · rw [e1, e2]; exact ⟨h0, h1⟩
  · omega
  · omega
theorem jvu69_11 {σ : Nat → Int → Int} {x : Int} (h : InvJ σ) (h0 : -1 ≤ x) (h1 : x ≤ 5) : InvJ (up σ 69 11 x) := by
  refine jv_up h (fun q hq e q0 q1 => ?_)
  have key : ∀ q ∈ jvL, q.1 = 69 → (q.2.1 = 11 ∧ q.2.2.2.1 = -1 ∧ q.2.2.2.2 = 5) ∨ q.2.2.1 ≤ 11 ∨ 11 < q.2.1 := by decide
  rcases key q hq e with ⟨-, e1, e2⟩ | e1 | e1
  · rw [e1, e2]; exact ⟨h0, h1⟩
  · omega
  · omega
theorem jvu69_12 {σ : Nat → Int → Int} {x : Int} (h : InvJ σ) (h0 : 0 ≤ x) (h1 : x ≤ 100) : InvJ (up σ 69 12 x) := by
  refine jv_up h (fun q hq e q0 q1 => ?_)
  have key : ∀ q ∈ jvL, q.1 = 69 → (q.2.1 = 12 ∧ q.2.2.2.1 = 0 ∧ q.2.2.2.2 = 100) ∨ q.2.2.1 ≤ 12 ∨ 12 < q.2.1 := by decide
  rcases key q hq e with ⟨-, e1, e2⟩ | e1 | e1
  · rw [e1, e2]; exact ⟨h0, h1⟩
  · omega
  · omega
theorem jvu69_13 {σ : Nat → Int → Int} {x : Int} (h : InvJ σ) (h0 : 0 ≤ x) (h1 : x ≤ 100) : InvJ (up σ 69 13 x) := by
  refine jv_up h (fun q hq e q0 q1 => ?_)
  have key : ∀ q ∈ jvL, q.1 = 69 → (q.2.1 = 13 ∧ q.2.2.2.1 = 0 ∧ q.2.2.2.2 = 100) ∨ q.2.2.1 ≤ 13 ∨ 13 < q.2.1 := by decide
  rcases key q hq e with ⟨-, e1, e2⟩ | e1 | e1
  · rw [e1, e2]; exact ⟨h0, h1⟩
  · omega
  · omega
theorem jvu69_14 {σ : Nat → Int → Int} {x : Int} (h : InvJ σ) (h0 : 0 ≤ x) (h1 : x ≤ 99) : InvJ (up σ 69 14 x) := by
  refine jv_up h (fun q hq e q0 q1 => ?_)
  have key : ∀ q ∈ jvL, q.1 = 69 → (q.2.1 = 14 ∧ q.2.2.2.1 = 0 ∧ q.2.2.2.2 = 99) ∨ q.2.2.1 ≤ 14 ∨ 14 < q.2.1 := by decide
  rcases key q hq e with ⟨-, e1, e2⟩ | e1 | e1
  · rw [e1, e2]; exact ⟨h0, h1⟩
  · omega
  · omega
theorem jvu69_23 {σ : Nat → Int → Int} {x : Int} (h : InvJ σ) (h0 : 0 ≤ x) (h1 : x ≤ 600) : InvJ (up σ 69 23 x) := by
  refine jv_up h (fun q hq e q0 q1 => ?_)
  have key : ∀ q ∈ jvL, q.1 = 69 → (q.2.1 = 23 ∧ q.2.2.2.1 = 0 ∧ q.2.2.2.2 = 600) ∨ q.2.2.1 ≤ 23 ∨ 23 < q.2.1 := by decide
  rcases key q hq e with ⟨-, e1, e2⟩ | e1 | e1
  · rw [e1, e2]; exact ⟨h0, h1⟩
  · omega
  · omega
theorem jvu69_24 {σ : Nat → Int → Int} {x : Int} (h : InvJ σ) (h0 : 0 ≤ x) (h1 : x ≤ 101) : InvJ (up σ 69 24 x) := by
  refine jv_up h (fun q hq e q0 q1 => ?_)
  have key : ∀ q ∈ jvL, q.1 = 69 → (q.2.1 = 24 ∧ q.2.2.2.1 = 0 ∧ q.2.2.2.2 = 101) ∨ q.2.2.1 ≤ 24 ∨ 24 < q.2.1 := by decide
  rcases key q hq e with ⟨-, e1, e2⟩ | e1 | e1
  · rw [e1, e2]; exact ⟨h0, h1⟩
  · omega
  · omega
theorem jvu69_28 {σ : Nat → Int → Int} {x : Int} (h : InvJ σ) (h0 : 0 ≤ x) (h1 : x ≤ 3) : InvJ (up σ 69 28 x) := by
  refine jv_up h (fun q hq e q0 q1 => ?_)
  have key : ∀ q ∈ jvL, q.1 = 69 → (q.2.1 = 28 ∧ q.2.2.2.1 = 0 ∧ q.2.2.2.2 = 3) ∨ q.2.2.1 ≤ 28 ∨ 28 < q.2.1 := by decide
  rcases key q hq e with ⟨-, e1, e2⟩ | e1 | e1
  · rw [e1, e2]; exact ⟨h0, h1⟩
  · omega
  · omega
theorem jvu69_29 {σ : Nat → Int → Int} {x : Int} (h : InvJ σ) (h0 : 0 ≤ x) (h1 : x ≤ 2000000) : InvJ (up σ 69 29 x) := by
  refine jv_up h (fun q hq e q0 q1 => ?_)
  have key : ∀ q ∈ jvL, q.1 = 69 → (q.2.1 = 29 ∧ q.2.2.2.1 = 0 ∧ q.2.2.2.2 = 2000000) ∨ q.2.2.1 ≤ 29 ∨ 29 < q.2.1 := by decide
  rcases key q hq e with ⟨-, e1, e2⟩ | e1 | e1
  · rw [e1, e2]; exact ⟨h0, h1⟩
  · omega
  · omega
theorem jvu69_30 {σ : Nat → Int → Int} {x : Int} (h : InvJ σ) (h0 : 0 ≤ x) (h1 : x ≤ 5) : InvJ (up σ 69 30 x) := by
  refine jv_up h (fun q hq e q0 q1 => ?_)
  have key : ∀ q ∈ jvL, q.1 = 69 → (q.2.1 = 30 ∧ q.2.2.2.1 = 0 ∧ q.2.2.2.2 = 5) ∨ q.2.2.1 ≤ 30 ∨ 30 < q.2.1 := by decide
  rcases key q hq e with ⟨-, e1, e2⟩ | e1 | e1
  · rw [e1, e2]; exact ⟨h0, h1⟩
  · omega
  · omega
theorem jvu69_31 {σ : Nat → Int → Int} {x : Int} (h : InvJ σ) (h0 : 0 ≤ x) (h1 : x ≤ 9) : InvJ (up σ 69 31 x) := by
  refine jv_up h (fun q hq e q0 q1 => ?_)
  have key : ∀ q ∈ jvL, q.1 = 69 → (q.2.1 = 31 ∧ q.2.2.2.1 = 0 ∧ q.2.2.2.2 = 9) ∨ q.2.2.1 ≤ 31 ∨ 31 < q.2.1 := by decide
  rcases key q hq e with ⟨-, e1, e2⟩ | e1 | e1
  · rw [e1, e2]; exact ⟨h0, h1⟩
  · omega
  · omega
theorem jvu69_34 {σ : Nat → Int → Int} {x : Int} (h : InvJ σ) (h0 : 0 ≤ x) (h1 : x ≤ 8) : InvJ (up σ 69 34 x) := by
  refine jv_up h (fun q hq e q0 q1 => ?_)
  have key : ∀ q ∈ jvL, q.1 = 69 → (q.2.1 = 34 ∧ q.2.2.2.1 = 0 ∧ q.2.2.2.2 = 8) ∨ q.2.2.1 ≤ 34 ∨ 34 < q.2.1 := by decide
  rcases key q hq e with ⟨-, e1, e2⟩ | e1 | e1
  · rw [e1, e2]; exact ⟨h0, h1⟩
  · omega
  · omega
theorem jvu69_38 {σ : Nat → Int → Int} {x : Int} (h : InvJ σ) (h0 : 0 ≤ x) (h1 : x ≤ 8) : InvJ (up σ 69 38 x) := by
  refine jv_up h (fun q hq e q0 q1 => ?_)
  have key : ∀ q ∈ jvL, q.1 = 69 → (q.2.1 = 38 ∧ q.2.2.2.1 = 0 ∧ q.2.2.2.2 = 8) ∨ q.2.2.1 ≤ 38 ∨ 38 < q.2.1 := by decide
  rcases key q hq e with ⟨-, e1, e2⟩ | e1 | e1
  · rw [e1, e2]; exact ⟨h0, h1⟩
  · omega
  · omega
theorem jvu69_41 {σ : Nat → Int → Int} {x : Int} (h : InvJ σ) (h0 : 0 ≤ x) (h1 : x ≤ 12) : InvJ (up σ 69 41 x) := by
  refine jv_up h (fun q hq e q0 q1 => ?_)
  have key : ∀ q ∈ jvL, q.1 = 69 → (q.2.1 = 41 ∧ q.2.2.2.1 = 0 ∧ q.2.2.2.2 = 12) ∨ q.2.2.1 ≤ 41 ∨ 41 < q.2.1 := by decide
  rcases key q hq e with ⟨-, e1, e2⟩ | e1 | e1
  · rw [e1, e2]; exact ⟨h0, h1⟩
  · omega
  · omega
theorem jvu69_45 {σ : Nat → Int → Int} {x : Int} (h : InvJ σ) (h0 : -1 ≤ x) (h1 : x ≤ 5) : InvJ (up σ 69 45 x) := by
  refine jv_up h (fun q hq e q0 q1 => ?_)
  have key : ∀ q ∈ jvL, q.1 = 69 → (q.2.1 = 45 ∧ q.2.2.2.1 = -1 ∧ q.2.2.2.2 = 5) ∨ q.2.2.1 ≤ 45 ∨ 45 < q.2.1 := by decide
  rcases key q hq e with ⟨-, e1, e2⟩ | e1 | e1
  · rw [e1, e2]; exact ⟨h0, h1⟩
  · omega
  · omega
theorem jvu69_46 {σ : Nat → Int → Int} {x : Int} (h : InvJ σ) (h0 : 0 ≤ x) (h1 : x ≤ 6) : InvJ (up σ 69 46 x) := by
  refine jv_up h (fun q hq e q0 q1 => ?_)
  have key : ∀ q ∈ jvL, q.1 = 69 → (q.2.1 = 46 ∧ q.2.2.2.1 = 0 ∧ q.2.2.2.2 = 6) ∨ q.2.2.1 ≤ 46 ∨ 46 < q.2.1 := by decide
  rcases key q hq e with ⟨-, e1, e2⟩ | e1 | e1
  · rw [e1, e2]; exact ⟨h0, h1⟩
  · omega
  · omega
theorem jvu69_47 {σ : Nat → Int → Int} {x : Int} (h : InvJ σ) (h0 : 0 ≤ x) (h1 : x ≤ 4) : InvJ (up σ 69 47 x) := by
  refine jv_up h (fun q hq e q0 q1 => ?_)
  have key : ∀ q ∈ jvL, q.1 = 69 → (q.2.1 = 47 ∧ q.2.2.2.1 = 0 ∧ q.2.2.2.2 = 4) ∨ q.2.2.1 ≤ 47 ∨ 47 < q.2.1 := by decide
  rcases key q hq e with ⟨-, e1, e2⟩ | e1 | e1
  · rw [e1, e2]; exact ⟨h0, h1⟩
  · omega
  · omega
theorem jvu69_48 {σ : Nat → Int → Int} {x : Int} (h : InvJ σ) (h0 : 0 ≤ x) (h1 : x ≤ 8) : InvJ (up σ 69 48 x) := by
  refine jv_up h (fun q hq e q0 q1 => ?_)
  have key : ∀ q ∈ jvL, q.1 = 69 → (q.2.1 = 48 ∧ q.2.2.2.1 = 0 ∧ q.2.2.2.2 = 8) ∨ q.2.2.1 ≤ 48 ∨ 48 < q.2.1 := by decide
  rcases key q hq e with ⟨-, e1, e2⟩ | e1 | e1
  · rw [e1, e2]; exact ⟨h0, h1⟩
  · omega
  · omega
theorem jvu69_49 {σ : Nat → Int → Int} {x : Int} (h : InvJ σ) (h0 : 0 ≤ x) (h1 : x ≤ 8) : InvJ (up σ 69 49 x) := by
  refine jv_up h (fun q hq e q0 q1 => ?_)
  have key : ∀ q ∈ jvL, q.1 = 69 → (q.2.1 = 49 ∧ q.2.2.2.1 = 0 ∧ q.2.2.2.2 = 8) ∨ q.2.2.1 ≤ 49 ∨ 49 < q.2.1 := by decide
  rcases key q hq e with ⟨-, e1, e2⟩ | e1 | e1
  · rw [e1, e2]; exact ⟨h0, h1⟩
  · omega
  · omega
theorem jvu69_50 {σ : Nat → Int → Int} {x : Int} (h : InvJ σ) (h0 : 0 ≤ x) (h1 : x ≤ 12) : InvJ (up σ 69 50 x) := by
  refine jv_up h (fun q hq e q0 q1 => ?_)
  have key : ∀ q ∈ jvL, q.1 = 69 → (q.2.1 = 50 ∧ q.2.2.2.1 = 0 ∧ q.2.2.2.2 = 12) ∨ q.2.2.1 ≤ 50 ∨ 50 < q.2.1 := by decide
  rcases key q hq e with ⟨-, e1, e2⟩ | e1 | e1
  · rw [e1, e2]; exact ⟨h0, h1⟩
  · omega
  · omega
theorem jvu69_64 {σ : Nat → Int → Int} {x : Int} (h : InvJ σ) (h0 : 0 ≤ x) (h1 : x ≤ 1000) : InvJ (up σ 69 64 x) := by
  refine jv_up h (fun q hq e q0 q1 => ?_)
  have key : ∀ q ∈ jvL, q.1 = 69 → (q.2.1 = 64 ∧ q.2.2.2.1 = 0 ∧ q.2.2.2.2 = 1000) ∨ q.2.2.1 ≤ 64 ∨ 64 < q.2.1 := by decide
  rcases key q hq e with ⟨-, e1, e2⟩ | e1 | e1
  · rw [e1, e2]; exact ⟨h0, h1⟩
  · omega
  · omega
theorem jvu70 {σ : Nat → Int → Int} {j x : Int} (h : InvJ σ) (h0 : 0 ≤ x) (h1 : x ≤ 6) : InvJ (up σ 70 j x) := by
  refine jv_up h (fun q hq e _ _ => ?_)
  have key : ∀ q ∈ jvL, q.1 = 70 → q.2.2.2.1 = 0 ∧ q.2.2.2.2 = 6 := by decide
  obtain ⟨e1, e2⟩ := key q hq e
  rw [e1, e2]; exact ⟨h0, h1⟩
theorem jvu71 {σ : Nat → Int → Int} {j x : Int} (h : InvJ σ) (h0 : 0 ≤ x) (h1 : x ≤ 9) : InvJ (up σ 71 j x) := by
  refine jv_up h (fun q hq e _ _ => ?_)
  have key : ∀ q ∈ jvL, q.1 = 71 → q.2.2.2.1 = 0 ∧ q.2.2.2.2 = 9 := by decide
  obtain ⟨e1, e2⟩ := key q hq e
  rw [e1, e2]; exact ⟨h0, h1⟩
theorem jvu72 {σ : Nat → Int → Int} {j x : Int} (h : InvJ σ) (h0 : 0 ≤ x) (h1 : x ≤ 99) : InvJ (up σ 72 j x) := by
  refine jv_up h (fun q hq e _ _ => ?_)
  have key : ∀ q ∈ jvL, q.1 = 72 → q.2.2.2.1 = 0 ∧ q.2.2.2.2 = 99 := by decide
  obtain ⟨e1, e2⟩ := key q hq e
  rw [e1, e2]; exact ⟨h0, h1⟩
theorem jvu75 {σ : Nat → Int → Int} {j x : Int} (h : InvJ σ) (h0 : 0 ≤ x) (h1 : x ≤ 5) : InvJ (up σ 75 j x) := by
  refine jv_up h (fun q hq e _ _ => ?_)
  have key : ∀ q ∈ jvL, q.1 = 75 → q.2.2.2.1 = 0 ∧ q.2.2.2.2 = 5 := by decide
  obtain ⟨e1, e2⟩ := key q hq e
  rw [e1, e2]; exact ⟨h0, h1⟩
theorem jvu76 {σ : Nat → Int → Int} {j x : Int} (h : InvJ σ) (h0 : 0 ≤ x) (h1 : x ≤ 9) : InvJ (up σ 76 j x) := by
  refine jv_up h (fun q hq e _ _ => ?_)
  have key : ∀ q ∈ jvL, q.1 = 76 → q.2.2.2.1 = 0 ∧ q.2.2.2.2 = 9 := by decide
  obtain ⟨e1, e2⟩ := key q hq e
  rw [e1, e2]; exact ⟨h0, h1⟩
theorem jvu77 {σ : Nat → Int → Int} {j x : Int} (h : InvJ σ) (h0 : 0 ≤ x) (h1 : x ≤ 9) : InvJ (up σ 77 j x) := by
  refine jv_up h (fun q hq e _ _ => ?_)
  have key : ∀ q ∈ jvL, q.1 = 77 → q.2.2.2.1 = 0 ∧ q.2.2.2.2 = 9 := by decide
  obtain ⟨e1, e2⟩ := key q hq e
  rw [e1, e2]; exact ⟨h0, h1⟩
theorem jvu79 {σ : Nat → Int → Int} {j x : Int} (h : InvJ σ) (h0 : 0 ≤ x) (h1 : x ≤ 10) : InvJ (up σ 79 j x) := by
  refine jv_up h (fun q hq e _ _ => ?_)
  have key : ∀ q ∈ jvL, q.1 = 79 → q.2.2.2.1 = 0 ∧ q.2.2.2.2 = 10 := by decide
  obtain ⟨e1, e2⟩ := key q hq e
  rw [e1, e2]; exact ⟨h0, h1⟩
theorem jvu81 {σ : Nat → Int → Int} {j x : Int} (h : InvJ σ) (h0 : 0 ≤ x) (h1 : x ≤ 99) : InvJ (up σ 81 j x) := by
  refine jv_up h (fun q hq e _ _ => ?_)
  have key : ∀ q ∈ jvL, q.1 = 81 → q.2.2.2.1 = 0 ∧ q.2.2.2.2 = 99 := by decide
  obtain ⟨e1, e2⟩ := key q hq e
  rw [e1, e2]; exact ⟨h0, h1⟩
theorem jvu82 {σ : Nat → Int → Int} {j x : Int} (h : InvJ σ) (h0 : 0 ≤ x) (h1 : x ≤ 600) : InvJ (up σ 82 j x) := by
  refine jv_up h (fun q hq e _ _ => ?_)
  have key : ∀ q ∈ jvL, q.1 = 82 → q.2.2.2.1 = 0 ∧ q.2.2.2.2 = 600 := by decide
  obtain ⟨e1, e2⟩ := key q hq e
  rw [e1, e2]; exact ⟨h0, h1⟩
theorem jvu83 {σ : Nat → Int → Int} {j x : Int} (h : InvJ σ) (h0 : 0 ≤ x) (h1 : x ≤ 600) : InvJ (up σ 83 j x) := by
  refine jv_up h (fun q hq e _ _ => ?_)
  have key : ∀ q ∈ jvL, q.1 = 83 → q.2.2.2.1 = 0 ∧ q.2.2.2.2 = 600 := by decide
  obtain ⟨e1, e2⟩ := key q hq e
  rw [e1, e2]; exact ⟨h0, h1⟩
theorem jvu86 {σ : Nat → Int → Int} {j x : Int} (h : InvJ σ) (h0 : 0 ≤ x) (h1 : x ≤ 127) : InvJ (up σ 86 j x) := by
  refine jv_up h (fun q hq e _ _ => ?_)
  have key : ∀ q ∈ jvL, q.1 = 86 → q.2.2.2.1 = 0 ∧ q.2.2.2.2 = 127 := by decide
  obtain ⟨e1, e2⟩ := key q hq e
  rw [e1, e2]; exact ⟨h0, h1⟩
theorem jvu87 {σ : Nat → Int → Int} {j x : Int} (h : InvJ σ) (h0 : 0 ≤ x) (h1 : x ≤ 1) : InvJ (up σ 87 j x) := by
  refine jv_up h (fun q hq e _ _ => ?_)
  have key : ∀ q ∈ jvL, q.1 = 87 → q.2.2.2.1 = 0 ∧ q.2.2.2.2 = 1 := by decide
  obtain ⟨e1, e2⟩ := key q hq e
  rw [e1, e2]; exact ⟨h0, h1⟩
theorem jvu88 {σ : Nat → Int → Int} {j x : Int} (h : InvJ σ) (h0 : 0 ≤ x) (h1 : x ≤ 5) : InvJ (up σ 88 j x) := by
  refine jv_up h (fun q hq e _ _ => ?_)
  have key : ∀ q ∈ jvL, q.1 = 88 → q.2.2.2.1 = 0 ∧ q.2.2.2.2 = 5 := by decide
  obtain ⟨e1, e2⟩ := key q hq e
  rw [e1, e2]; exact ⟨h0, h1⟩
theorem jvu89 {σ : Nat → Int → Int} {j x : Int} (h : InvJ σ) (h0 : 0 ≤ x) (h1 : x ≤ 5) : InvJ (up σ 89 j x) := by
  refine jv_up h (fun q hq e _ _ => ?_)
  have key : ∀ q ∈ jvL, q.1 = 89 → q.2.2.2.1 = 0 ∧ q.2.2.2.2 = 5 := by decide
  obtain ⟨e1, e2⟩ := key q hq e
  rw [e1, e2]; exact ⟨h0, h1⟩
theorem jvu91 {σ : Nat → Int → Int} {j x : Int} (h : InvJ σ) (h0 : 0 ≤ x) (h1 : x ≤ 5) : InvJ (up σ 91 j x) := by
  refine jv_up h (fun q hq e _ _ => ?_)
  have key : ∀ q ∈ jvL, q.1 = 91 → q.2.2.2.1 = 0 ∧ q.2.2.2.2 = 5 := by decide
  obtain ⟨e1, e2⟩ := key q hq e
  rw [e1, e2]; exact ⟨h0, h1⟩
theorem jvu92 {σ : Nat → Int → Int} {j x : Int} (h : InvJ σ) (h0 : 0 ≤ x) (h1 : x ≤ 1) : InvJ (up σ 92 j x) := by
  refine jv_up h (fun q hq e _ _ => ?_)
  have key : ∀ q ∈ jvL, q.1 = 92 → q.2.2.2.1 = 0 ∧ q.2.2.2.2 = 1 := by decide
  obtain ⟨e1, e2⟩ := key q hq e
  rw [e1, e2]; exact ⟨h0, h1⟩
theorem jvu93 {σ : Nat → Int → Int} {j x : Int} (h : InvJ σ) (h0 : 0 ≤ x) (h1 : x ≤ 3) : InvJ (up σ 93 j x) := by
  refine jv_up h (fun q hq e _ _ => ?_)
  have key : ∀ q ∈ jvL, q.1 = 93 → q.2.2.2.1 = 0 ∧ q.2.2.2.2 = 3 := by decide
  obtain ⟨e1, e2⟩ := key q hq e
  rw [e1, e2]; exact ⟨h0, h1⟩
theorem jvu94 {σ : Nat → Int → Int} {j x : Int} (h : InvJ σ) (h0 : 0 ≤ x) (h1 : x ≤ 5) : InvJ (up σ 94 j x) := by
  refine jv_up h (fun q hq e _ _ => ?_)
  have key : ∀ q ∈ jvL, q.1 = 94 → q.2.2.2.1 = 0 ∧ q.2.2.2.2 = 5 := by decide
  obtain ⟨e1, e2⟩ := key q hq e
  rw [e1, e2]; exact ⟨h0, h1⟩
theorem jvu95 {σ : Nat → Int → Int} {j x : Int} (h : InvJ σ) (h0 : 0 ≤ x) (h1 : x ≤ 6) : InvJ (up σ 95 j x) := by
  refine jv_up h (fun q hq e _ _ => ?_)
  have key : ∀ q ∈ jvL, q.1 = 95 → q.2.2.2.1 = 0 ∧ q.2.2.2.2 = 6 := by decide
  obtain ⟨e1, e2⟩ := key q hq e
  rw [e1, e2]; exact ⟨h0, h1⟩
theorem jvu96 {σ : Nat → Int → Int} {j x : Int} (h : InvJ σ) (h0 : 0 ≤ x) (h1 : x ≤ 9) : InvJ (up σ 96 j x) := by
  refine jv_up h (fun q hq e _ _ => ?_)
  have key : ∀ q ∈ jvL, q.1 = 96 → q.2.2.2.1 = 0 ∧ q.2.2.2.2 = 9 := by decide
  obtain ⟨e1, e2⟩ := key q hq e
  rw [e1, e2]; exact ⟨h0, h1⟩
theorem jvu97 {σ : Nat → Int → Int} {j x : Int} (h : InvJ σ) (h0 : 0 ≤ x) (h1 : x ≤ 99) : InvJ (up σ 97 j x) := by
  refine jv_up h (fun q hq e _ _ => ?_)
  have key : ∀ q ∈ jvL, q.1 = 97 → q.2.2.2.1 = 0 ∧ q.2.2.2.2 = 99 := by decide
  obtain ⟨e1, e2⟩ := key q hq e
  rw [e1, e2]; exact ⟨h0, h1⟩
theorem jvu100 {σ : Nat → Int → Int} {j x : Int} (h : InvJ σ) (h0 : 0 ≤ x) (h1 : x ≤ 5) : InvJ (up σ 100 j x) := by
  refine jv_up h (fun q hq e _ _ => ?_)
  have key : ∀ q ∈ jvL, q.1 = 100 → q.2.2.2.1 = 0 ∧ q.2.2.2.2 = 5 := by decide
  obtain ⟨e1, e2⟩ := key q hq e
  rw [e1, e2]; exact ⟨h0, h1⟩
theorem jvu101 {σ : Nat → Int → Int} {j x : Int} (h : InvJ σ) (h0 : 0 ≤ x) (h1 : x ≤ 9) : InvJ (up σ 101 j x) := by
  refine jv_up h (fun q hq e _ _ => ?_)
  have key : ∀ q ∈ jvL, q.1 = 101 → q.2.2.2.1 = 0 ∧ q.2.2.2.2 = 9 := by decide
  obtain ⟨e1, e2⟩ := key q hq e
  rw [e1, e2]; exact ⟨h0, h1⟩
theorem jvu102 {σ : Nat → Int → Int} {j x : Int} (h : InvJ σ) (h0 : 0 ≤ x) (h1 : x ≤ 9) : InvJ (up σ 102 j x) := by
  refine jv_up h (fun q hq e _ _ => ?_)
  have key : ∀ q ∈ jvL, q.1 = 102 → q.2.2.2.1 = 0 ∧ q.2.2.2.2 = 9 := by decide
  obtain ⟨e1, e2⟩ := key q hq e
  rw [e1, e2]; exact ⟨h0, h1⟩
theorem jvu103 {σ : Nat → Int → Int} {j x : Int} (h : InvJ σ) (h0 : 0 ≤ x) (h1 : x ≤ 5) : InvJ (up σ 103 j x) := by
  refine jv_up h (fun q hq e _ _ => ?_)
  have key : ∀ q ∈ jvL, q.1 = 103 → q.2.2.2.1 = 0 ∧ q.2.2.2.2 = 5 := by decide
  obtain ⟨e1, e2⟩ := key q hq e
  rw [e1, e2]; exact ⟨h0, h1⟩
theorem jvu104 {σ : Nat → Int → Int} {j x : Int} (h : InvJ σ) (h0 : 0 ≤ x) (h1 : x ≤ 5) : InvJ (up σ 104 j x) := by
  refine jv_up h (fun q hq e _ _ => ?_)
  have key : ∀ q ∈ jvL, q.1 = 104 → q.2.2.2.1 = 0 ∧ q.2.2.2.2 = 5 := by decide
  obtain ⟨e1, e2⟩ := key q hq e
  rw [e1, e2]; exact ⟨h0, h1⟩
theorem jvu105 {σ : Nat → Int → Int} {j x : Int} (h : InvJ σ) (h0 : 0 ≤ x) (h1 : x ≤ 3) : InvJ (up σ 105 j x) := by
  refine jv_up h (fun q hq e _ _ => ?_)
  have key : ∀ q ∈ jvL, q.1 = 105 → q.2.2.2.1 = 0 ∧ q.2.2.2.2 = 3 := by decide
  obtain ⟨e1, e2⟩ := key q hq e
  rw [e1, e2]; exact ⟨h0, h1⟩
theorem jvu106 {σ : Nat → Int → Int} {j x : Int} (h : InvJ σ) (h0 : 0 ≤ x) (h1 : x ≤ 5) : InvJ (up σ 106 j x) := by
  refine jv_up h (fun q hq e _ _ => ?_)
  have key : ∀ q ∈ jvL, q.1 = 106 → q.2.2.2.1 = 0 ∧ q.2.2.2.2 = 5 := by decide
  obtain ⟨e1, e2⟩ := key q hq e
  rw [e1, e2]; exact ⟨h0, h1⟩
theorem jvu107 {σ : Nat → Int → Int} {j x : Int} (h : InvJ σ) (h0 : 0 ≤ x) (h1 : x ≤ 1) : InvJ (up σ 107 j x) := by
  refine jv_up h (fun q hq e _ _ => ?_)
  have key : ∀ q ∈ jvL, q.1 = 107 → q.2.2.2.1 = 0 ∧ q.2.2.2.2 = 1 := by decide
  obtain ⟨e1, e2⟩ := key q hq e
  rw [e1, e2]; exact ⟨h0, h1⟩
theorem jvu109 {σ : Nat → Int → Int} {j x : Int} (h : InvJ σ) (h0 : -1 ≤ x) (h1 : x ≤ 4) : InvJ (up σ 109 j x) := by
  refine jv_up h (fun q hq e _ _ => ?_)
  have key : ∀ q ∈ jvL, q.1 = 109 → q.2.2.2.1 = -1 ∧ q.2.2.2.2 = 4 := by decide
  obtain ⟨e1, e2⟩ := key q hq e
  rw [e1, e2]; exact ⟨h0, h1⟩
theorem jvu110 {σ : Nat → Int → Int} {j x : Int} (h : InvJ σ) (h0 : 0 ≤ x) (h1 : x ≤ 60) : InvJ (up σ 110 j x) := by
  refine jv_up h (fun q hq e _ _ => ?_)
  have key : ∀ q ∈ jvL, q.1 = 110 → q.2.2.2.1 = 0 ∧ q.2.2.2.2 = 60 := by decide
  obtain ⟨e1, e2⟩ := key q hq e
  rw [e1, e2]; exact ⟨h0, h1⟩
theorem jv_fr {F : Nat → Int → Bool} {σ σ' : Nat → Int → Int} (h : InvJ σ) (hF : Fr F σ σ') (hd : ∀ q ∈ jvL, ∀ j, q.2.1 ≤ j → j < q.2.2.1 → F q.1 j = false) : InvJ σ' := by
  intro q hq j h0 h1
  rw [hF q.1 j (hd q hq j h0 h1)]
  exact h q hq j h0 h1
def xAll (k : Nat) (_ : Int) : Bool := decide (k < 69)
def jAll (k : Nat) (_ : Int) : Bool := decide (69 ≤ k)
def scX (k : Nat) (j : Int) : Bool := k == 61 || k == 63 || k == 64 || k == 65 || k == 66 || k == 67 || k == 68 || (k == 51 && (j == 5 || j == 6))
def scM (k : Nat) (j : Int) : Bool := k == 61 || k == 67 || k == 68 || (k == 51 && (j == 5 || j == 6))
def scT (k : Nat) (j : Int) : Bool := k == 61 || (k == 51 && (j == 5 || j == 6))
def scR (k : Nat) (j : Int) : Bool := k == 63 || k == 64 || k == 65
def scN (k : Nat) (j : Int) : Bool := k == 66
def scP (k : Nat) (j : Int) : Bool := k == 53 || k == 54 || k == 55 || k == 56 || k == 57 || k == 58 || (k == 19 && (j == 1 || j == 2 || j == 3 || j == 5 || j == 6))
def scC (k : Nat) (j : Int) : Bool := (k == 66 && (j == 8))
def scW (k : Nat) (j : Int) : Bool := k == 65
def scI (k : Nat) (j : Int) : Bool := k == 25 || k == 26 || k == 27 || k == 28 || k == 29 || k == 30
def scA (k : Nat) (j : Int) : Bool := k == 22 || (k == 21 && (j == 1))
def scAc (k : Nat) (j : Int) : Bool := k == 22 || (k == 21 && (j == 1 || j == 2 || j == 3 || j == 4))
def scFd (k : Nat) (j : Int) : Bool := k == 20 || (k == 19 && (j == 1))
def scTa (k : Nat) (j : Int) : Bool := k == 59 || k == 60 || (k == 51 && (j == 3))
def scTw (k : Nat) (j : Int) : Bool := k == 53 || k == 54 || k == 55 || k == 56 || k == 57 || k == 58 || k == 59 || k == 60 || (k == 19 && (j == 1 || j == 2 || j == 3 || j == 5 || j == 6)) || (k == 51 && (j == 3)) || (k == 33 && (j == 13))
def scTp (k : Nat) (j : Int) : Bool := k == 25 || k == 26 || k == 27 || k == 28 || k == 29 || k == 30 || k == 31 || k == 32
def scCn (k : Nat) (j : Int) : Bool := k == 33 || k == 34 || k == 35 || k == 36 || k == 37 || k == 38 || k == 39 || k == 40 || k == 41 || k == 42 || k == 43 || k == 44 || k == 45 || k == 46 || k == 47 || k == 48 || k == 49 || k == 50
def scCk (k : Nat) (j : Int) : Bool := k == 1 || k == 2 || k == 3 || k == 4 || k == 5 || k == 6 || k == 7 || k == 8 || k == 9 || k == 10 || k == 11 || k == 12 || k == 13 || k == 14 || k == 15 || k == 16 || k == 17 || k == 18 || (k == 0 && (j == 2))
def scC10 (k : Nat) (j : Int) : Bool := k == 10 || k == 11 || k == 12
def scC13 (k : Nat) (j : Int) : Bool := k == 13 || k == 14 || k == 15
def scC16 (k : Nat) (j : Int) : Bool := k == 16 || k == 17 || k == 18
def scC42 (k : Nat) (j : Int) : Bool := k == 42 || k == 43 || k == 44
def scC45 (k : Nat) (j : Int) : Bool := k == 45 || k == 46 || k == 47
def scC48 (k : Nat) (j : Int) : Bool := k == 48 || k == 49 || k == 50
def scJ (k : Nat) (j : Int) : Bool := k == 87 || k == 89 || k == 90 || (k == 69 && (j == 28 || j == 29 || j == 30 || j == 31 || j == 32 || j == 33))
def jcC (k : Nat) (j : Int) : Bool := k == 87 || (k == 69 && (j == 28 || j == 29 || j == 30 || j == 31 || j == 32 || j == 33))
def jcV (k : Nat) (j : Int) : Bool := k == 87 || (k == 69 && (j == 29 || j == 30 || j == 31 || j == 32 || j == 33))
def jcN (k : Nat) (j : Int) : Bool := (k == 69 && (j == 28 || j == 29 || j == 30 || j == 31 || j == 32 || j == 33))
def jcP (k : Nat) (j : Int) : Bool := (k == 69 && (j == 31))
def jcH (k : Nat) (j : Int) : Bool := k == 87
def jcO (k : Nat) (j : Int) : Bool := k == 89
def jcB (k : Nat) (j : Int) : Bool := k == 70 || k == 71 || k == 74
def jcA (k : Nat) (j : Int) : Bool := (k == 69 && (j == 13))
def jcD (k : Nat) (j : Int) : Bool := (k == 69 && (j == 13 || j == 14))
def jcW (k : Nat) (j : Int) : Bool := k == 84 || (k == 69 && (j == 23 || j == 24 || j == 25))
def jcS (k : Nat) (j : Int) : Bool := k == 84 || (k == 69 && (j == 23 || j == 24))
def jcT (k : Nat) (j : Int) : Bool := k == 84 || (k == 69 && (j == 13 || j == 14 || j == 23 || j == 24 || j == 25))
def jcHd (k : Nat) (j : Int) : Bool := k == 80 || (k == 69 && (j == 13))
def jcE (k : Nat) (j : Int) : Bool := k == 82 || k == 83 || k == 84 || k == 85 || (k == 69 && (j == 13 || j == 14 || j == 23 || j == 24 || j == 25))
def jcL (k : Nat) (j : Int) : Bool := k == 80 || k == 81 || k == 82 || k == 83 || k == 84 || k == 85 || (k == 69 && (j == 13 || j == 14 || j == 23 || j == 24 || j == 25))
def jcG (k : Nat) (j : Int) : Bool := k == 79 || k == 80 || k == 81 || k == 82 || k == 83 || k == 84 || k == 85 || (k == 69 && (j == 13 || j == 14 || j == 23 || j == 24 || j == 25))
def jcK (k : Nat) (j : Int) : Bool := k == 108 || (k == 69 && (j == 64))
def jcFd (k : Nat) (j : Int) : Bool := k == 78 || (k == 69 && (j == 12))
def jcTw (k : Nat) (j : Int) : Bool := k == 79 || k == 80 || k == 81 || k == 82 || k == 83 || k == 84 || k == 85 || (k == 69 && (j == 10 || j == 11 || j == 12 || j == 13 || j == 14 || j == 23 || j == 24 || j == 25))
def jcSh (k : Nat) (j : Int) : Bool := k == 111 || k == 112
def jcMm (k : Nat) (j : Int) : Bool := k == 70 || k == 71 || k == 72 || k == 73 || k == 74 || k == 75 || k == 88 || k == 91 || k == 92 || (k == 69 && (j == 0 || j == 34 || j == 38))
def jcMf (k : Nat) (j : Int) : Bool := k == 75 || k == 76 || k == 77 || (k == 69 && (j == 1))
def jcMk (k : Nat) (j : Int) : Bool := k == 93 || k == 94 || (k == 69 && (j == 41))
def jcTp (k : Nat) (j : Int) : Bool := k == 109 || k == 110 || k == 111 || k == 112
def jcI (k : Nat) (j : Int) : Bool := k == 95 || k == 96 || k == 97 || k == 98 || k == 99 || k == 100 || k == 101 || k == 102 || k == 103 || k == 104 || k == 105 || k == 106 || k == 107 || (k == 69 && (j == 44 || j == 45 || j == 46 || j == 47 || j == 48 || j == 49 || j == 50))
def jcU (k : Nat) (j : Int) : Bool := k == 70 || k == 71 || k == 72 || k == 73 || k == 74 || k == 75 || k == 76 || k == 77 || k == 88 || k == 91 || k == 92 || k == 93 || k == 94 || (k == 69 && (j == 0 || j == 1 || j == 11 || j == 34 || j == 38 || j == 41))
def jcKeep (k : Nat) (j : Int) : Bool := k == 72 || k == 87 || (k == 69 && (j == 28 || j == 29 || j == 30 || j == 31 || j == 32 || j == 33))
theorem sb_scX_xAll : ∀ k j, xAll k j = false → scX k j = false := by
  intro k j h
  unfold xAll at h
  unfold scX
  simp only [decide_eq_false_iff_not, Bool.or_eq_false_iff, Bool.and_eq_false_iff, beq_eq_false_iff_ne, ne_eq] at h ⊢
  omega
theorem sb_scM_scX : ∀ k j, scX k j = false → scM k j = false := by
  intro k j h
  unfold scX at h
  unfold scM
  simp only [Bool.or_eq_false_iff, Bool.and_eq_false_iff, beq_eq_false_iff_ne, ne_eq] at h ⊢
  omega
theorem sb_scM_xAll : ∀ k j, xAll k j = false → scM k j = false := by
  intro k j h
  unfold xAll at h
  unfold scM
  simp only [decide_eq_false_iff_not, Bool.or_eq_false_iff, Bool.and_eq_false_iff, beq_eq_false_iff_ne, ne_eq] at h ⊢
  omega
theorem sb_scT_scX : ∀ k j, scX k j = false → scT k j = false := by
  intro k j h
  unfold scX at h
  unfold scT
  simp only [Bool.or_eq_false_iff, Bool.and_eq_false_iff, beq_eq_false_iff_ne, ne_eq] at h ⊢
  omega
theorem sb_scT_scM : ∀ k j, scM k j = false → scT k j = false := by
  intro k j h
  unfold scM at h
  unfold scT
  simp only [Bool.or_eq_false_iff, Bool.and_eq_false_iff, beq_eq_false_iff_ne, ne_eq] at h ⊢
  omega
theorem sb_scT_xAll : ∀ k j, xAll k j = false → scT k j = false := by
  intro k j h
  unfold xAll at h
  unfold scT
  simp only [decide_eq_false_iff_not, Bool.or_eq_false_iff, Bool.and_eq_false_iff, beq_eq_false_iff_ne, ne_eq] at h ⊢
  omega
theorem sb_scR_scX : ∀ k j, scX k j = false → scR k j = false := by
  intro k j h
  unfold scX at h
  unfold scR
  simp only [Bool.or_eq_false_iff, Bool.and_eq_false_iff, beq_eq_false_iff_ne, ne_eq] at h ⊢
  omega
theorem sb_scR_xAll : ∀ k j, xAll k j = false → scR k j = false := by
  intro k j h
  unfold xAll at h
  unfold scR
  simp only [decide_eq_false_iff_not, Bool.or_eq_false_iff, Bool.and_eq_false_iff, beq_eq_false_iff_ne, ne_eq] at h ⊢
  omega
theorem sb_scN_scX : ∀ k j, scX k j = false → scN k j = false := by
  intro k j h
  unfold scX at h
  unfold scN
  simp only [Bool.or_eq_false_iff, Bool.and_eq_false_iff, beq_eq_false_iff_ne, ne_eq] at h ⊢
  omega
theorem sb_scN_xAll : ∀ k j, xAll k j = false → scN k j = false := by
  intro k j h
  unfold xAll at h
  unfold scN
  simp only [decide_eq_false_iff_not, Bool.or_eq_false_iff, Bool.and_eq_false_iff, beq_eq_false_iff_ne, ne_eq] at h ⊢
  omega
theorem sb_scP_scTw : ∀ k j, scTw k j = false → scP k j = false := by
  intro k j h
  unfold scTw at h
  unfold scP
  simp only [Bool.or_eq_false_iff, Bool.and_eq_false_iff, beq_eq_false_iff_ne, ne_eq] at h ⊢
  omega
theorem sb_scP_xAll : ∀ k j, xAll k j = false → scP k j = false := by
  intro k j h
  unfold xAll at h
  unfold scP
  simp only [decide_eq_false_iff_not, Bool.or_eq_false_iff, Bool.and_eq_false_iff, beq_eq_false_iff_ne, ne_eq] at h ⊢
  omega
theorem sb_scC_scX : ∀ k j, scX k j = false → scC k j = false := by
  intro k j h
  unfold scX at h
  unfold scC
  simp only [Bool.or_eq_false_iff, Bool.and_eq_false_iff, beq_eq_false_iff_ne, ne_eq] at h ⊢
  omega
theorem sb_scC_scN : ∀ k j, scN k j = false → scC k j = false := by
  intro k j h
  unfold scN at h
  unfold scC
  simp only [Bool.or_eq_false_iff, Bool.and_eq_false_iff, beq_eq_false_iff_ne, ne_eq] at h ⊢
  omega
theorem sb_scC_xAll : ∀ k j, xAll k j = false → scC k j = false := by
  intro k j h
  unfold xAll at h
  unfold scC
  simp only [decide_eq_false_iff_not, Bool.or_eq_false_iff, Bool.and_eq_false_iff, beq_eq_false_iff_ne, ne_eq] at h ⊢
  omega
theorem sb_scW_scX : ∀ k j, scX k j = false → scW k j = false := by
  intro k j h
  unfold scX at h
  unfold scW
  simp only [Bool.or_eq_false_iff, Bool.and_eq_false_iff, beq_eq_false_iff_ne, ne_eq] at h ⊢
  omega
theorem sb_scW_scR : ∀ k j, scR k j = false → scW k j = false := by
  intro k j h
  unfold scR at h
  unfold scW
  simp only [Bool.or_eq_false_iff, Bool.and_eq_false_iff, beq_eq_false_iff_ne, ne_eq] at h ⊢
  omega
theorem sb_scW_xAll : ∀ k j, xAll k j = false → scW k j = false := by
  intro k j h
  unfold xAll at h
  unfold scW
  simp only [decide_eq_false_iff_not, Bool.or_eq_false_iff, Bool.and_eq_false_iff, beq_eq_false_iff_ne, ne_eq] at h ⊢
  omega
theorem sb_scI_scTp : ∀ k j, scTp k j = false → scI k j = false := by
  intro k j h
  unfold scTp at h
  unfold scI
  simp only [Bool.or_eq_false_iff, Bool.and_eq_false_iff, beq_eq_false_iff_ne, ne_eq] at h ⊢
  omega
theorem sb_scI_xAll : ∀ k j, xAll k j = false → scI k j = false := by
  intro k j h
  unfold xAll at h
  unfold scI
  simp only [decide_eq_false_iff_not, Bool.or_eq_false_iff, Bool.and_eq_false_iff, beq_eq_false_iff_ne, ne_eq] at h ⊢
  omega
theorem sb_scA_scAc : ∀ k j, scAc k j = false → scA k j = false := by
  intro k j h
  unfold scAc at h
  unfold scA
  simp only [Bool.or_eq_false_iff, Bool.and_eq_false_iff, beq_eq_false_iff_ne, ne_eq] at h ⊢
  omega
theorem sb_scA_xAll : ∀ k j, xAll k j = false → scA k j = false := by
  intro k j h
  unfold xAll at h
  unfold scA
  simp only [decide_eq_false_iff_not, Bool.or_eq_false_iff, Bool.and_eq_false_iff, beq_eq_false_iff_ne, ne_eq] at h ⊢
  omega
theorem sb_scAc_xAll : ∀ k j, xAll k j = false → scAc k j = false := by
  intro k j h
  unfold xAll at h
  unfold scAc
  simp only [decide_eq_false_iff_not, Bool.or_eq_false_iff, Bool.and_eq_false_iff, beq_eq_false_iff_ne, ne_eq] at h ⊢
  omega
theorem sb_scFd_xAll : ∀ k j, xAll k j = false → scFd k j = false := by
  intro k j h
  unfold xAll at h
  unfold scFd
  simp only [decide_eq_false_iff_not, Bool.or_eq_false_iff, Bool.and_eq_false_iff, beq_eq_false_iff_ne, ne_eq] at h ⊢
  omega
theorem sb_scTa_scTw : ∀ k j, scTw k j = false → scTa k j = false := by
  intro k j h
  unfold scTw at h
  unfold scTa
  simp only [Bool.or_eq_false_iff, Bool.and_eq_false_iff, beq_eq_false_iff_ne, ne_eq] at h ⊢
  omega
theorem sb_scTa_xAll : ∀ k j, xAll k j = false → scTa k j = false := by
  intro k j h
  unfold xAll at h
  unfold scTa
  simp only [decide_eq_false_iff_not, Bool.or_eq_false_iff, Bool.and_eq_false_iff, beq_eq_false_iff_ne, ne_eq] at h ⊢
  omega
theorem sb_scTw_xAll : ∀ k j, xAll k j = false → scTw k j = false := by
  intro k j h
  unfold xAll at h
  unfold scTw
  simp only [decide_eq_false_iff_not, Bool.or_eq_false_iff, Bool.and_eq_false_iff, beq_eq_false_iff_ne, ne_eq] at h ⊢
  omega
theorem sb_scTp_xAll : ∀ k j, xAll k j = false → scTp k j = false := by
  intro k j h
  unfold xAll at h
  unfold scTp
  simp only [decide_eq_false_iff_not, Bool.or_eq_false_iff, Bool.and_eq_false_iff, beq_eq_false_iff_ne, ne_eq] at h ⊢
  omega
theorem sb_scCn_xAll : ∀ k j, xAll k j = false → scCn k j = false := by
  intro k j h
  unfold xAll at h
  unfold scCn
  simp only [decide_eq_false_iff_not, Bool.or_eq_false_iff, Bool.and_eq_false_iff, beq_eq_false_iff_ne, ne_eq] at h ⊢
  omega
theorem sb_scCk_xAll : ∀ k j, xAll k j = false → scCk k j = false := by
  intro k j h
  unfold xAll at h
  unfold scCk
  simp only [decide_eq_false_iff_not, Bool.or_eq_false_iff, Bool.and_eq_false_iff, beq_eq_false_iff_ne, ne_eq] at h ⊢
  omega
theorem sb_scC10_scCk : ∀ k j, scCk k j = false → scC10 k j = false := by
  intro k j h
  unfold scCk at h
  unfold scC10
  simp only [Bool.or_eq_false_iff, Bool.and_eq_false_iff, beq_eq_false_iff_ne, ne_eq] at h ⊢
  omega
theorem sb_scC10_xAll : ∀ k j, xAll k j = false → scC10 k j = false := by
  intro k j h
  unfold xAll at h
  unfold scC10
  simp only [decide_eq_false_iff_not, Bool.or_eq_false_iff, Bool.and_eq_false_iff, beq_eq_false_iff_ne, ne_eq] at h ⊢
  omega
theorem sb_scC13_scCk : ∀ k j, scCk k j = false → scC13 k j = false := by
  intro k j h
  unfold scCk at h
  unfold scC13
  simp only [Bool.or_eq_false_iff, Bool.and_eq_false_iff, beq_eq_false_iff_ne, ne_eq] at h ⊢
  omega
theorem sb_scC13_xAll : ∀ k j, xAll k j = false → scC13 k j = false := by
  intro k j h
  unfold xAll at h
  unfold scC13
  simp only [decide_eq_false_iff_not, Bool.or_eq_false_iff, Bool.and_eq_false_iff, beq_eq_false_iff_ne, ne_eq] at h ⊢
  omega
theorem sb_scC16_scCk : ∀ k j, scCk k j = false → scC16 k j = false := by
  intro k j h
  unfold scCk at h
  unfold scC16
  simp only [Bool.or_eq_false_iff, Bool.and_eq_false_iff, beq_eq_false_iff_ne, ne_eq] at h ⊢
  omega
theorem sb_scC16_xAll : ∀ k j, xAll k j = false → scC16 k j = false := by
  intro k j h
  unfold xAll at h
  unfold scC16
  simp only [decide_eq_false_iff_not, Bool.or_eq_false_iff, Bool.and_eq_false_iff, beq_eq_false_iff_ne, ne_eq] at h ⊢
  omega
theorem sb_scC42_scCn : ∀ k j, scCn k j = false → scC42 k j = false := by
  intro k j h
  unfold scCn at h
  unfold scC42
  simp only [Bool.or_eq_false_iff, Bool.and_eq_false_iff, beq_eq_false_iff_ne, ne_eq] at h ⊢
  omega
theorem sb_scC42_xAll : ∀ k j, xAll k j = false → scC42 k j = false := by
  intro k j h
  unfold xAll at h
  unfold scC42
  simp only [decide_eq_false_iff_not, Bool.or_eq_false_iff, Bool.and_eq_false_iff, beq_eq_false_iff_ne, ne_eq] at h ⊢
  omega
theorem sb_scC45_scCn : ∀ k j, scCn k j = false → scC45 k j = false := by
  intro k j h
  unfold scCn at h
  unfold scC45
  simp only [Bool.or_eq_false_iff, Bool.and_eq_false_iff, beq_eq_false_iff_ne, ne_eq] at h ⊢
  omega
theorem sb_scC45_xAll : ∀ k j, xAll k j = false → scC45 k j = false := by
  intro k j h
  unfold xAll at h
  unfold scC45
  simp only [decide_eq_false_iff_not, Bool.or_eq_false_iff, Bool.and_eq_false_iff, beq_eq_false_iff_ne, ne_eq] at h ⊢
  omega
theorem sb_scC48_scCn : ∀ k j, scCn k j = false → scC48 k j = false := by
  intro k j h
  unfold scCn at h
  unfold scC48
  simp only [Bool.or_eq_false_iff, Bool.and_eq_false_iff, beq_eq_false_iff_ne, ne_eq] at h ⊢
  omega
theorem sb_scC48_xAll : ∀ k j, xAll k j = false → scC48 k j = false := by
  intro k j h
  unfold xAll at h
  unfold scC48
  simp only [decide_eq_false_iff_not, Bool.or_eq_false_iff, Bool.and_eq_false_iff, beq_eq_false_iff_ne, ne_eq] at h ⊢
  omega
theorem sb_scJ_jAll : ∀ k j, jAll k j = false → scJ k j = false := by
  intro k j h
  unfold jAll at h
  unfold scJ
  simp only [decide_eq_false_iff_not, Bool.or_eq_false_iff, Bool.and_eq_false_iff, beq_eq_false_iff_ne, ne_eq] at h ⊢
  omega
theorem sb_jcC_scJ : ∀ k j, scJ k j = false → jcC k j = false := by
  intro k j h
  unfold scJ at h
  unfold jcC
  simp only [Bool.or_eq_false_iff, Bool.and_eq_false_iff, beq_eq_false_iff_ne, ne_eq] at h ⊢
  omega
theorem sb_jcC_jcKeep : ∀ k j, jcKeep k j = false → jcC k j = false := by
  intro k j h
  unfold jcKeep at h
  unfold jcC
  simp only [Bool.or_eq_false_iff, Bool.and_eq_false_iff, beq_eq_false_iff_ne, ne_eq] at h ⊢
  omega
theorem sb_jcC_jAll : ∀ k j, jAll k j = false → jcC k j = false := by
  intro k j h
  unfold jAll at h
  unfold jcC
  simp only [decide_eq_false_iff_not, Bool.or_eq_false_iff, Bool.and_eq_false_iff, beq_eq_false_iff_ne, ne_eq] at h ⊢
  omega
theorem sb_jcV_scJ : ∀ k j, scJ k j = false → jcV k j = false := by
  intro k j h
  unfold scJ at h
  unfold jcV
  simp only [Bool.or_eq_false_iff, Bool.and_eq_false_iff, beq_eq_false_iff_ne, ne_eq] at h ⊢
  omega
theorem sb_jcV_jcC : ∀ k j, jcC k j = false → jcV k j = false := by
  intro k j h
  unfold jcC at h
  unfold jcV
  simp only [Bool.or_eq_false_iff, Bool.and_eq_false_iff, beq_eq_false_iff_ne, ne_eq] at h ⊢
  omega
theorem sb_jcV_jcKeep : ∀ k j, jcKeep k j = false → jcV k j = false := by
  intro k j h
  unfold jcKeep at h
  unfold jcV
  simp only [Bool.or_eq_false_iff, Bool.and_eq_false_iff, beq_eq_false_iff_ne, ne_eq] at h ⊢
  omega
theorem sb_jcV_jAll : ∀ k j, jAll k j = false → jcV k j = false := by
  intro k j h
  unfold jAll at h
  unfold jcV
  simp only [decide_eq_false_iff_not, Bool.or_eq_false_iff, Bool.and_eq_false_iff, beq_eq_false_iff_ne, ne_eq] at h ⊢
  omega
theorem sb_jcN_scJ : ∀ k j, scJ k j = false → jcN k j = false := by
  intro k j h
  unfold scJ at h
  unfold jcN
  simp only [Bool.or_eq_false_iff, Bool.and_eq_false_iff, beq_eq_false_iff_ne, ne_eq] at h ⊢
  omega
theorem sb_jcN_jcC : ∀ k j, jcC k j = false → jcN k j = false := by
  intro k j h
  unfold jcC at h
  unfold jcN
  simp only [Bool.or_eq_false_iff, Bool.and_eq_false_iff, beq_eq_false_iff_ne, ne_eq] at h ⊢
  omega
theorem sb_jcN_jcKeep : ∀ k j, jcKeep k j = false → jcN k j = false := by
  intro k j h
  unfold jcKeep at h
  unfold jcN
  simp only [Bool.or_eq_false_iff, Bool.and_eq_false_iff, beq_eq_false_iff_ne, ne_eq] at h ⊢
  omega
theorem sb_jcN_jAll : ∀ k j, jAll k j = false → jcN k j = false := by
  intro k j h
  unfold jAll at h
  unfold jcN
  simp only [decide_eq_false_iff_not, Bool.or_eq_false_iff, Bool.and_eq_false_iff, beq_eq_false_iff_ne, ne_eq] at h ⊢
  omega
theorem sb_jcP_scJ : ∀ k j, scJ k j = false → jcP k j = false := by
  intro k j h
  unfold scJ at h
  unfold jcP
  simp only [Bool.or_eq_false_iff, Bool.and_eq_false_iff, beq_eq_false_iff_ne, ne_eq] at h ⊢
  omega
theorem sb_jcP_jcC : ∀ k j, jcC k j = false → jcP k j = false := by
  intro k j h
  unfold jcC at h
  unfold jcP
  simp only [Bool.or_eq_false_iff, Bool.and_eq_false_iff, beq_eq_false_iff_ne, ne_eq] at h ⊢
  omega
theorem sb_jcP_jcV : ∀ k j, jcV k j = false → jcP k j = false := by
  intro k j h
  unfold jcV at h
  unfold jcP
  simp only [Bool.or_eq_false_iff, Bool.and_eq_false_iff, beq_eq_false_iff_ne, ne_eq] at h ⊢
  omega
theorem sb_jcP_jcN : ∀ k j, jcN k j = false → jcP k j = false := by
  intro k j h
  unfold jcN at h
  unfold jcP
  simp only [Bool.or_eq_false_iff, Bool.and_eq_false_iff, beq_eq_false_iff_ne, ne_eq] at h ⊢
  omega
theorem sb_jcP_jcKeep : ∀ k j, jcKeep k j = false → jcP k j = false := by
  intro k j h
  unfold jcKeep at h
  unfold jcP
  simp only [Bool.or_eq_false_iff, Bool.and_eq_false_iff, beq_eq_false_iff_ne, ne_eq] at h ⊢
  omega
theorem sb_jcP_jAll : ∀ k j, jAll k j = false → jcP k j = false := by
  intro k j h
  unfold jAll at h
  unfold jcP
  simp only [decide_eq_false_iff_not, Bool.or_eq_false_iff, Bool.and_eq_false_iff, beq_eq_false_iff_ne, ne_eq] at h ⊢
  omega
theorem sb_jcH_scJ : ∀ k j, scJ k j = false → jcH k j = false := by
  intro k j h
  unfold scJ at h
  unfold jcH
  simp only [Bool.or_eq_false_iff, Bool.and_eq_false_iff, beq_eq_false_iff_ne, ne_eq] at h ⊢
  omega
theorem sb_jcH_jcC : ∀ k j, jcC k j = false → jcH k j = false := by
  intro k j h
  unfold jcC at h
  unfold jcH
  simp only [Bool.or_eq_false_iff, Bool.and_eq_false_iff, beq_eq_false_iff_ne, ne_eq] at h ⊢
  omega
theorem sb_jcH_jcV : ∀ k j, jcV k j = false → jcH k j = false := by
  intro k j h
  unfold jcV at h
  unfold jcH
  simp only [Bool.or_eq_false_iff, Bool.and_eq_false_iff, beq_eq_false_iff_ne, ne_eq] at h ⊢
  omega
theorem sb_jcH_jcKeep : ∀ k j, jcKeep k j = false → jcH k j = false := by
  intro k j h
  unfold jcKeep at h
  unfold jcH
  simp only [Bool.or_eq_false_iff, Bool.and_eq_false_iff, beq_eq_false_iff_ne, ne_eq] at h ⊢
  omega
theorem sb_jcH_jAll : ∀ k j, jAll k j = false → jcH k j = false := by
  intro k j h
  unfold jAll at h
  unfold jcH
  simp only [decide_eq_false_iff_not, Bool.or_eq_false_iff, Bool.and_eq_false_iff, beq_eq_false_iff_ne, ne_eq] at h ⊢
  omega
theorem sb_jcO_scJ : ∀ k j, scJ k j = false → jcO k j = false := by
  intro k j h
  unfold scJ at h
  unfold jcO
  simp only [Bool.or_eq_false_iff, Bool.and_eq_false_iff, beq_eq_false_iff_ne, ne_eq] at h ⊢
  omega
theorem sb_jcO_jAll : ∀ k j, jAll k j = false → jcO k j = false := by
  intro k j h
  unfold jAll at h
  unfold jcO
  simp only [decide_eq_false_iff_not, Bool.or_eq_false_iff, Bool.and_eq_false_iff, beq_eq_false_iff_ne, ne_eq] at h ⊢
  omega
theorem sb_jcB_jcMm : ∀ k j, jcMm k j = false → jcB k j = false := by
  intro k j h
  unfold jcMm at h
  unfold jcB
  simp only [Bool.or_eq_false_iff, Bool.and_eq_false_iff, beq_eq_false_iff_ne, ne_eq] at h ⊢
  omega
theorem sb_jcB_jcU : ∀ k j, jcU k j = false → jcB k j = false := by
  intro k j h
  unfold jcU at h
  unfold jcB
  simp only [Bool.or_eq_false_iff, Bool.and_eq_false_iff, beq_eq_false_iff_ne, ne_eq] at h ⊢
  omega
theorem sb_jcB_jAll : ∀ k j, jAll k j = false → jcB k j = false := by
  intro k j h
  unfold jAll at h
  unfold jcB
  simp only [decide_eq_false_iff_not, Bool.or_eq_false_iff, Bool.and_eq_false_iff, beq_eq_false_iff_ne, ne_eq] at h ⊢
  omega
theorem sb_jcA_jcD : ∀ k j, jcD k j = false → jcA k j = false := by
  intro k j h
  unfold jcD at h
  unfold jcA
  simp only [Bool.or_eq_false_iff, Bool.and_eq_false_iff, beq_eq_false_iff_ne, ne_eq] at h ⊢
  omega
theorem sb_jcA_jcT : ∀ k j, jcT k j = false → jcA k j = false := by
  intro k j h
  unfold jcT at h
  unfold jcA
  simp only [Bool.or_eq_false_iff, Bool.and_eq_false_iff, beq_eq_false_iff_ne, ne_eq] at h ⊢
  omega
theorem sb_jcA_jcHd : ∀ k j, jcHd k j = false → jcA k j = false := by
  intro k j h
  unfold jcHd at h
  unfold jcA
  simp only [Bool.or_eq_false_iff, Bool.and_eq_false_iff, beq_eq_false_iff_ne, ne_eq] at h ⊢
  omega
theorem sb_jcA_jcE : ∀ k j, jcE k j = false → jcA k j = false := by
  intro k j h
  unfold jcE at h
  unfold jcA
  simp only [Bool.or_eq_false_iff, Bool.and_eq_false_iff, beq_eq_false_iff_ne, ne_eq] at h ⊢
  omega
theorem sb_jcA_jcL : ∀ k j, jcL k j = false → jcA k j = false := by
  intro k j h
  unfold jcL at h
  unfold jcA
  simp only [Bool.or_eq_false_iff, Bool.and_eq_false_iff, beq_eq_false_iff_ne, ne_eq] at h ⊢
  omega
theorem sb_jcA_jcG : ∀ k j, jcG k j = false → jcA k j = false := by
  intro k j h
  unfold jcG at h
  unfold jcA
  simp only [Bool.or_eq_false_iff, Bool.and_eq_false_iff, beq_eq_false_iff_ne, ne_eq] at h ⊢
  omega
theorem sb_jcA_jcTw : ∀ k j, jcTw k j = false → jcA k j = false := by
  intro k j h
  unfold jcTw at h
  unfold jcA
  simp only [Bool.or_eq_false_iff, Bool.and_eq_false_iff, beq_eq_false_iff_ne, ne_eq] at h ⊢
  omega
theorem sb_jcA_jAll : ∀ k j, jAll k j = false → jcA k j = false := by
  intro k j h
  unfold jAll at h
  unfold jcA
  simp only [decide_eq_false_iff_not, Bool.or_eq_false_iff, Bool.and_eq_false_iff, beq_eq_false_iff_ne, ne_eq] at h ⊢
  omega
theorem sb_jcD_jcT : ∀ k j, jcT k j = false → jcD k j = false := by
  intro k j h
  unfold jcT at h
  unfold jcD
  simp only [Bool.or_eq_false_iff, Bool.and_eq_false_iff, beq_eq_false_iff_ne, ne_eq] at h ⊢
  omega
theorem sb_jcD_jcE : ∀ k j, jcE k j = false → jcD k j = false := by
  intro k j h
  unfold jcE at h
  unfold jcD
  simp only [Bool.or_eq_false_iff, Bool.and_eq_false_iff, beq_eq_false_iff_ne, ne_eq] at h ⊢
  omega
theorem sb_jcD_jcL : ∀ k j, jcL k j = false → jcD k j = false := by
  intro k j h
  unfold jcL at h
  unfold jcD
  simp only [Bool.or_eq_false_iff, Bool.and_eq_false_iff, beq_eq_false_iff_ne, ne_eq] at h ⊢
  omega
theorem sb_jcD_jcG : ∀ k j, jcG k j = false → jcD k j = false := by
  intro k j h
  unfold jcG at h
  unfold jcD
  simp only [Bool.or_eq_false_iff, Bool.and_eq_false_iff, beq_eq_false_iff_ne, ne_eq] at h ⊢
  omega
theorem sb_jcD_jcTw : ∀ k j, jcTw k j = false → jcD k j = false := by
  intro k j h
  unfold jcTw at h
  unfold jcD
  simp only [Bool.or_eq_false_iff, Bool.and_eq_false_iff, beq_eq_false_iff_ne, ne_eq] at h ⊢
  omega
theorem sb_jcD_jAll : ∀ k j, jAll k j = false → jcD k j = false := by
  intro k j h
  unfold jAll at h
  unfold jcD
  simp only [decide_eq_false_iff_not, Bool.or_eq_false_iff, Bool.and_eq_false_iff, beq_eq_false_iff_ne, ne_eq] at h ⊢
  omega
theorem sb_jcW_jcT : ∀ k j, jcT k j = false → jcW k j = false := by
  intro k j h
  unfold jcT at h
  unfold jcW
  simp only [Bool.or_eq_false_iff, Bool.and_eq_false_iff, beq_eq_false_iff_ne, ne_eq] at h ⊢
  omega
theorem sb_jcW_jcE : ∀ k j, jcE k j = false → jcW k j = false := by
  intro k j h
  unfold jcE at h
  unfold jcW
  simp only [Bool.or_eq_false_iff, Bool.and_eq_false_iff, beq_eq_false_iff_ne, ne_eq] at h ⊢
  omega
theorem sb_jcW_jcL : ∀ k j, jcL k j = false → jcW k j = false := by
  intro k j h
  unfold jcL at h
  unfold jcW
  simp only [Bool.or_eq_false_iff, Bool.and_eq_false_iff, beq_eq_false_iff_ne, ne_eq] at h ⊢
  omega
theorem sb_jcW_jcG : ∀ k j, jcG k j = false → jcW k j = false := by
  intro k j h
  unfold jcG at h
  unfold jcW
  simp only [Bool.or_eq_false_iff, Bool.and_eq_false_iff, beq_eq_false_iff_ne, ne_eq] at h ⊢
  omega
theorem sb_jcW_jcTw : ∀ k j, jcTw k j = false → jcW k j = false := by
  intro k j h
  unfold jcTw at h
  unfold jcW
  simp only [Bool.or_eq_false_iff, Bool.and_eq_false_iff, beq_eq_false_iff_ne, ne_eq] at h ⊢
  omega
theorem sb_jcW_jAll : ∀ k j, jAll k j = false → jcW k j = false := by
  intro k j h
  unfold jAll at h
  unfold jcW
  simp only [decide_eq_false_iff_not, Bool.or_eq_false_iff, Bool.and_eq_false_iff, beq_eq_false_iff_ne, ne_eq] at h ⊢
  omega
theorem sb_jcS_jcW : ∀ k j, jcW k j = false → jcS k j = false := by
  intro k j h
  unfold jcW at h
  unfold jcS
  simp only [Bool.or_eq_false_iff, Bool.and_eq_false_iff, beq_eq_false_iff_ne, ne_eq] at h ⊢
  omega
theorem sb_jcS_jcT : ∀ k j, jcT k j = false → jcS k j = false := by
  intro k j h
  unfold jcT at h
  unfold jcS
  simp only [Bool.or_eq_false_iff, Bool.and_eq_false_iff, beq_eq_false_iff_ne, ne_eq] at h ⊢
  omega
theorem sb_jcS_jcE : ∀ k j, jcE k j = false → jcS k j = false := by
  intro k j h
  unfold jcE at h
  unfold jcS
  simp only [Bool.or_eq_false_iff, Bool.and_eq_false_iff, beq_eq_false_iff_ne, ne_eq] at h ⊢
  omega
theorem sb_jcS_jcL : ∀ k j, jcL k j = false → jcS k j = false := by
  intro k j h
  unfold jcL at h
  unfold jcS
  simp only [Bool.or_eq_false_iff, Bool.and_eq_false_iff, beq_eq_false_iff_ne, ne_eq] at h ⊢
  omega
theorem sb_jcS_jcG : ∀ k j, jcG k j = false → jcS k j = false := by
  intro k j h
  unfold jcG at h
  unfold jcS
  simp only [Bool.or_eq_false_iff, Bool.and_eq_false_iff, beq_eq_false_iff_ne, ne_eq] at h ⊢
  omega
theorem sb_jcS_jcTw : ∀ k j, jcTw k j = false → jcS k j = false := by
  intro k j h
  unfold jcTw at h
  unfold jcS
  simp only [Bool.or_eq_false_iff, Bool.and_eq_false_iff, beq_eq_false_iff_ne, ne_eq] at h ⊢
  omega
theorem sb_jcS_jAll : ∀ k j, jAll k j = false → jcS k j = false := by
  intro k j h
  unfold jAll at h
  unfold jcS
  simp only [decide_eq_false_iff_not, Bool.or_eq_false_iff, Bool.and_eq_false_iff, beq_eq_false_iff_ne, ne_eq] at h ⊢
  omega
theorem sb_jcT_jcE : ∀ k j, jcE k j = false → jcT k j = false := by
  intro k j h
  unfold jcE at h
  unfold jcT
  simp only [Bool.or_eq_false_iff, Bool.and_eq_false_iff, beq_eq_false_iff_ne, ne_eq] at h ⊢
  omega
theorem sb_jcT_jcL : ∀ k j, jcL k j = false → jcT k j = false := by
  intro k j h
  unfold jcL at h
  unfold jcT
  simp only [Bool.or_eq_false_iff, Bool.and_eq_false_iff, beq_eq_false_iff_ne, ne_eq] at h ⊢
  omega
theorem sb_jcT_jcG : ∀ k j, jcG k j = false → jcT k j = false := by
  intro k j h
  unfold jcG at h
  unfold jcT
  simp only [Bool.or_eq_false_iff, Bool.and_eq_false_iff, beq_eq_false_iff_ne, ne_eq] at h ⊢
  omega
theorem sb_jcT_jcTw : ∀ k j, jcTw k j = false → jcT k j = false := by
  intro k j h
  unfold jcTw at h
  unfold jcT
  simp only [Bool.or_eq_false_iff, Bool.and_eq_false_iff, beq_eq_false_iff_ne, ne_eq] at h ⊢
  omega
theorem sb_jcT_jAll : ∀ k j, jAll k j = false → jcT k j = false := by
  intro k j h
  unfold jAll at h
  unfold jcT
  simp only [decide_eq_false_iff_not, Bool.or_eq_false_iff, Bool.and_eq_false_iff, beq_eq_false_iff_ne, ne_eq] at h ⊢
  omega
theorem sb_jcHd_jcL : ∀ k j, jcL k j = false → jcHd k j = false := by
  intro k j h
  unfold jcL at h
  unfold jcHd
  simp only [Bool.or_eq_false_iff, Bool.and_eq_false_iff, beq_eq_false_iff_ne, ne_eq] at h ⊢
  omega
theorem sb_jcHd_jcG : ∀ k j, jcG k j = false → jcHd k j = false := by
  intro k j h
  unfold jcG at h
  unfold jcHd
  simp only [Bool.or_eq_false_iff, Bool.and_eq_false_iff, beq_eq_false_iff_ne, ne_eq] at h ⊢
  omega
theorem sb_jcHd_jcTw : ∀ k j, jcTw k j = false → jcHd k j = false := by
  intro k j h
  unfold jcTw at h
  unfold jcHd
  simp only [Bool.or_eq_false_iff, Bool.and_eq_false_iff, beq_eq_false_iff_ne, ne_eq] at h ⊢
  omega
theorem sb_jcHd_jAll : ∀ k j, jAll k j = false → jcHd k j = false := by
  intro k j h
  unfold jAll at h
  unfold jcHd
  simp only [decide_eq_false_iff_not, Bool.or_eq_false_iff, Bool.and_eq_false_iff, beq_eq_false_iff_ne, ne_eq] at h ⊢
  omega
theorem sb_jcE_jcL : ∀ k j, jcL k j = false → jcE k j = false := by
  intro k j h
  unfold jcL at h
  unfold jcE
  simp only [Bool.or_eq_false_iff, Bool.and_eq_false_iff, beq_eq_false_iff_ne, ne_eq] at h ⊢
  omega
theorem sb_jcE_jcG : ∀ k j, jcG k j = false → jcE k j = false := by
  intro k j h
  unfold jcG at h
  unfold jcE
  simp only [Bool.or_eq_false_iff, Bool.and_eq_false_iff, beq_eq_false_iff_ne, ne_eq] at h ⊢
  omega
theorem sb_jcE_jcTw : ∀ k j, jcTw k j = false → jcE k j = false := by
  intro k j h
  unfold jcTw at h
  unfold jcE
  simp only [Bool.or_eq_false_iff, Bool.and_eq_false_iff, beq_eq_false_iff_ne, ne_eq] at h ⊢
  omega
theorem sb_jcE_jAll : ∀ k j, jAll k j = false → jcE k j = false := by
  intro k j h
  unfold jAll at h
  unfold jcE
  simp only [decide_eq_false_iff_not, Bool.or_eq_false_iff, Bool.and_eq_false_iff, beq_eq_false_iff_ne, ne_eq] at h ⊢
  omega
theorem sb_jcL_jcG : ∀ k j, jcG k j = false → jcL k j = false := by
  intro k j h
  unfold jcG at h
  unfold jcL
  simp only [Bool.or_eq_false_iff, Bool.and_eq_false_iff, beq_eq_false_iff_ne, ne_eq] at h ⊢
  omega
theorem sb_jcL_jcTw : ∀ k j, jcTw k j = false → jcL k j = false := by
  intro k j h
  unfold jcTw at h
  unfold jcL
  simp only [Bool.or_eq_false_iff, Bool.and_eq_false_iff, beq_eq_false_iff_ne, ne_eq] at h ⊢
  omega
theorem sb_jcL_jAll : ∀ k j, jAll k j = false → jcL k j = false := by
  intro k j h
  unfold jAll at h
  unfold jcL
  simp only [decide_eq_false_iff_not, Bool.or_eq_false_iff, Bool.and_eq_false_iff, beq_eq_false_iff_ne, ne_eq] at h ⊢
  omega
theorem sb_jcG_jcTw : ∀ k j, jcTw k j = false → jcG k j = false := by
  intro k j h
  unfold jcTw at h
  unfold jcG
  simp only [Bool.or_eq_false_iff, Bool.and_eq_false_iff, beq_eq_false_iff_ne, ne_eq] at h ⊢
  omega
theorem sb_jcG_jAll : ∀ k j, jAll k j = false → jcG k j = false := by
  intro k j h
  unfold jAll at h
  unfold jcG
  simp only [decide_eq_false_iff_not, Bool.or_eq_false_iff, Bool.and_eq_false_iff, beq_eq_false_iff_ne, ne_eq] at h ⊢
  omega
theorem sb_jcK_jAll : ∀ k j, jAll k j = false → jcK k j = false := by
  intro k j h
  unfold jAll at h
  unfold jcK
  simp only [decide_eq_false_iff_not, Bool.or_eq_false_iff, Bool.and_eq_false_iff, beq_eq_false_iff_ne, ne_eq] at h ⊢
  omega
theorem sb_jcFd_jAll : ∀ k j, jAll k j = false → jcFd k j = false := by
  intro k j h
  unfold jAll at h
  unfold jcFd
  simp only [decide_eq_false_iff_not, Bool.or_eq_false_iff, Bool.and_eq_false_iff, beq_eq_false_iff_ne, ne_eq] at h ⊢
  omega
theorem sb_jcTw_jAll : ∀ k j, jAll k j = false → jcTw k j = false := by
  intro k j h
  unfold jAll at h
  unfold jcTw
  simp only [decide_eq_false_iff_not, Bool.or_eq_false_iff, Bool.and_eq_false_iff, beq_eq_false_iff_ne, ne_eq] at h ⊢
  omega
theorem sb_jcSh_jcTp : ∀ k j, jcTp k j = false → jcSh k j = false := by
  intro k j h
  unfold jcTp at h
  unfold jcSh
  simp only [Bool.or_eq_false_iff, Bool.and_eq_false_iff, beq_eq_false_iff_ne, ne_eq] at h ⊢
  omega
theorem sb_jcSh_jAll : ∀ k j, jAll k j = false → jcSh k j = false := by
  intro k j h
  unfold jAll at h
  unfold jcSh
  simp only [decide_eq_false_iff_not, Bool.or_eq_false_iff, Bool.and_eq_false_iff, beq_eq_false_iff_ne, ne_eq] at h ⊢
  omega
theorem sb_jcMm_jcU : ∀ k j, jcU k j = false → jcMm k j = false := by
  intro k j h
  unfold jcU at h
  unfold jcMm
  simp only [Bool.or_eq_false_iff, Bool.and_eq_false_iff, beq_eq_false_iff_ne, ne_eq] at h ⊢
  omega
theorem sb_jcMm_jAll : ∀ k j, jAll k j = false → jcMm k j = false := by
  intro k j h
  unfold jAll at h
  unfold jcMm
  simp only [decide_eq_false_iff_not, Bool.or_eq_false_iff, Bool.and_eq_false_iff, beq_eq_false_iff_ne, ne_eq] at h ⊢
  omega
theorem sb_jcMf_jcU : ∀ k j, jcU k j = false → jcMf k j = false := by
  intro k j h
  unfold jcU at h
  unfold jcMf
  simp only [Bool.or_eq_false_iff, Bool.and_eq_false_iff, beq_eq_false_iff_ne, ne_eq] at h ⊢
  omega
theorem sb_jcMf_jAll : ∀ k j, jAll k j = false → jcMf k j = false := by
  intro k j h
  unfold jAll at h
  unfold jcMf
  simp only [decide_eq_false_iff_not, Bool.or_eq_false_iff, Bool.and_eq_false_iff, beq_eq_false_iff_ne, ne_eq] at h ⊢
  omega
theorem sb_jcMk_jcU : ∀ k j, jcU k j = false → jcMk k j = false := by
  intro k j h
  unfold jcU at h
  unfold jcMk
  simp only [Bool.or_eq_false_iff, Bool.and_eq_false_iff, beq_eq_false_iff_ne, ne_eq] at h ⊢
  omega
theorem sb_jcMk_jAll : ∀ k j, jAll k j = false → jcMk k j = false := by
  intro k j h
  unfold jAll at h
  unfold jcMk
  simp only [decide_eq_false_iff_not, Bool.or_eq_false_iff, Bool.and_eq_false_iff, beq_eq_false_iff_ne, ne_eq] at h ⊢
  omega
theorem sb_jcTp_jAll : ∀ k j, jAll k j = false → jcTp k j = false := by
  intro k j h
  unfold jAll at h
  unfold jcTp
  simp only [decide_eq_false_iff_not, Bool.or_eq_false_iff, Bool.and_eq_false_iff, beq_eq_false_iff_ne, ne_eq] at h ⊢
  omega
theorem sb_jcI_jAll : ∀ k j, jAll k j = false → jcI k j = false := by
  intro k j h
  unfold jAll at h
  unfold jcI
  simp only [decide_eq_false_iff_not, Bool.or_eq_false_iff, Bool.and_eq_false_iff, beq_eq_false_iff_ne, ne_eq] at h ⊢
  omega
theorem sb_jcU_jAll : ∀ k j, jAll k j = false → jcU k j = false := by
  intro k j h
  unfold jAll at h
  unfold jcU
  simp only [decide_eq_false_iff_not, Bool.or_eq_false_iff, Bool.and_eq_false_iff, beq_eq_false_iff_ne, ne_eq] at h ⊢
  omega
theorem sb_jcKeep_jAll : ∀ k j, jAll k j = false → jcKeep k j = false := by
  intro k j h
  unfold jAll at h
  unfold jcKeep
  simp only [decide_eq_false_iff_not, Bool.or_eq_false_iff, Bool.and_eq_false_iff, beq_eq_false_iff_ne, ne_eq] at h ⊢
  omega
def jNS (k : Nat) (j : Int) : Bool := decide (69 ≤ k) && !(k == 77 || k == 79 || k == 80 || k == 82 || k == 83 || k == 84 || k == 93 || k == 102 || k == 105 || (k == 69 && (j == 1 || j == 10 || j == 11 || j == 41 || j == 45 || j == 47 || j == 50)))
theorem sb_scJ_jNS : ∀ k j, jNS k j = false → scJ k j = false := by
  intro k j h
  unfold jNS at h
  unfold scJ
  simp only [Bool.and_eq_false_iff, Bool.not_eq_false', decide_eq_false_iff_not, Bool.or_eq_false_iff, beq_eq_false_iff_ne, ne_eq, Bool.or_eq_true, Bool.and_eq_true, beq_iff_eq] at h ⊢
  omega
theorem sb_jcC_jNS : ∀ k j, jNS k j = false → jcC k j = false := by
  intro k j h
  unfold jNS at h
  unfold jcC
  simp only [Bool.and_eq_false_iff, Bool.not_eq_false', decide_eq_false_iff_not, Bool.or_eq_false_iff, beq_eq_false_iff_ne, ne_eq, Bool.or_eq_true, Bool.and_eq_true, beq_iff_eq] at h ⊢
  omega
theorem sb_jcV_jNS : ∀ k j, jNS k j = false → jcV k j = false := by
  intro k j h
  unfold jNS at h
  unfold jcV
  simp only [Bool.and_eq_false_iff, Bool.not_eq_false', decide_eq_false_iff_not, Bool.or_eq_false_iff, beq_eq_false_iff_ne, ne_eq, Bool.or_eq_true, Bool.and_eq_true, beq_iff_eq] at h ⊢
  omega
theorem sb_jcN_jNS : ∀ k j, jNS k j = false → jcN k j = false := by
  intro k j h
  unfold jNS at h
  unfold jcN
  simp only [Bool.and_eq_false_iff, Bool.not_eq_false', decide_eq_false_iff_not, Bool.or_eq_false_iff, beq_eq_false_iff_ne, ne_eq, Bool.or_eq_true, Bool.and_eq_true, beq_iff_eq] at h ⊢
  omega
theorem sb_jcP_jNS : ∀ k j, jNS k j = false → jcP k j = false := by
  intro k j h
  unfold jNS at h
  unfold jcP
  simp only [Bool.and_eq_false_iff, Bool.not_eq_false', decide_eq_false_iff_not, Bool.or_eq_false_iff, beq_eq_false_iff_ne, ne_eq, Bool.or_eq_true, Bool.and_eq_true, beq_iff_eq] at h ⊢
  omega
theorem sb_jcH_jNS : ∀ k j, jNS k j = false → jcH k j = false := by
  intro k j h
  unfold jNS at h
  unfold jcH
  simp only [Bool.and_eq_false_iff, Bool.not_eq_false', decide_eq_false_iff_not, Bool.or_eq_false_iff, beq_eq_false_iff_ne, ne_eq, Bool.or_eq_true, Bool.and_eq_true, beq_iff_eq] at h ⊢
  omega
theorem sb_jcO_jNS : ∀ k j, jNS k j = false → jcO k j = false := by
  intro k j h
  unfold jNS at h
  unfold jcO
  simp only [Bool.and_eq_false_iff, Bool.not_eq_false', decide_eq_false_iff_not, Bool.or_eq_false_iff, beq_eq_false_iff_ne, ne_eq, Bool.or_eq_true, Bool.and_eq_true, beq_iff_eq] at h ⊢
  omega
theorem sb_jcB_jNS : ∀ k j, jNS k j = false → jcB k j = false := by
  intro k j h
  unfold jNS at h
  unfold jcB
  simp only [Bool.and_eq_false_iff, Bool.not_eq_false', decide_eq_false_iff_not, Bool.or_eq_false_iff, beq_eq_false_iff_ne, ne_eq, Bool.or_eq_true, Bool.and_eq_true, beq_iff_eq] at h ⊢
  omega
theorem sb_jcA_jNS : ∀ k j, jNS k j = false → jcA k j = false := by
  intro k j h
  unfold jNS at h
  unfold jcA
  simp only [Bool.and_eq_false_iff, Bool.not_eq_false', decide_eq_false_iff_not, Bool.or_eq_false_iff, beq_eq_false_iff_ne, ne_eq, Bool.or_eq_true, Bool.and_eq_true, beq_iff_eq] at h ⊢
  omega
theorem sb_jcD_jNS : ∀ k j, jNS k j = false → jcD k j = false := by
  intro k j h
  unfold jNS at h
  unfold jcD
  simp only [Bool.and_eq_false_iff, Bool.not_eq_false', decide_eq_false_iff_not, Bool.or_eq_false_iff, beq_eq_false_iff_ne, ne_eq, Bool.or_eq_true, Bool.and_eq_true, beq_iff_eq] at h ⊢
  omega
theorem sb_jcK_jNS : ∀ k j, jNS k j = false → jcK k j = false := by
  intro k j h
  unfold jNS at h
  unfold jcK
  simp only [Bool.and_eq_false_iff, Bool.not_eq_false', decide_eq_false_iff_not, Bool.or_eq_false_iff, beq_eq_false_iff_ne, ne_eq, Bool.or_eq_true, Bool.and_eq_true, beq_iff_eq] at h ⊢
  omega
theorem sb_jcFd_jNS : ∀ k j, jNS k j = false → jcFd k j = false := by
  intro k j h
  unfold jNS at h
  unfold jcFd
  simp only [Bool.and_eq_false_iff, Bool.not_eq_false', decide_eq_false_iff_not, Bool.or_eq_false_iff, beq_eq_false_iff_ne, ne_eq, Bool.or_eq_true, Bool.and_eq_true, beq_iff_eq] at h ⊢
  omega
theorem sb_jcSh_jNS : ∀ k j, jNS k j = false → jcSh k j = false := by
  intro k j h
  unfold jNS at h
  unfold jcSh
  simp only [Bool.and_eq_false_iff, Bool.not_eq_false', decide_eq_false_iff_not, Bool.or_eq_false_iff, beq_eq_false_iff_ne, ne_eq, Bool.or_eq_true, Bool.and_eq_true, beq_iff_eq] at h ⊢
  omega
theorem sb_jcMm_jNS : ∀ k j, jNS k j = false → jcMm k j = false := by
  intro k j h
  unfold jNS at h
  unfold jcMm
  simp only [Bool.and_eq_false_iff, Bool.not_eq_false', decide_eq_false_iff_not, Bool.or_eq_false_iff, beq_eq_false_iff_ne, ne_eq, Bool.or_eq_true, Bool.and_eq_true, beq_iff_eq] at h ⊢
  omega
theorem sb_jcTp_jNS : ∀ k j, jNS k j = false → jcTp k j = false := by
  intro k j h
  unfold jNS at h
  unfold jcTp
  simp only [Bool.and_eq_false_iff, Bool.not_eq_false', decide_eq_false_iff_not, Bool.or_eq_false_iff, beq_eq_false_iff_ne, ne_eq, Bool.or_eq_true, Bool.and_eq_true, beq_iff_eq] at h ⊢
  omega
theorem sb_jcKeep_jNS : ∀ k j, jNS k j = false → jcKeep k j = false := by
  intro k j h
  unfold jNS at h
  unfold jcKeep
  simp only [Bool.and_eq_false_iff, Bool.not_eq_false', decide_eq_false_iff_not, Bool.or_eq_false_iff, beq_eq_false_iff_ne, ne_eq, Bool.or_eq_true, Bool.and_eq_true, beq_iff_eq] at h ⊢
  omega
theorem sb_jNS_jAll : ∀ k j, jAll k j = false → jNS k j = false := by
  intro k j h
  unfold jAll at h
  unfold jNS
  rw [h]; rfl
def xNR (k : Nat) (j : Int) : Bool := (decide (19 ≤ k) && decide (k ≤ 32)) || (decide (51 ≤ k) && decide (k ≤ 68)) || (k == 33 && j == 13)
def jNR (k : Nat) (j : Int) : Bool := decide (78 ≤ k ∧ k ≤ 87) || k == 89 || k == 90 || decide (108 ≤ k) || (k == 69 && !(j == 0 || j == 1 || j == 34 || j == 38 || j == 41 || j == 44 || j == 46 || j == 47 || j == 48 || j == 49 || j == 50))
theorem sb_scX_xNR : ∀ k j, xNR k j = false → scX k j = false := by
  intro k j h
  unfold xNR at h
  unfold scX
  simp only [Bool.and_eq_false_iff, decide_eq_false_iff_not, Bool.or_eq_false_iff, beq_eq_false_iff_ne, ne_eq] at h ⊢
  omega
theorem sb_scM_xNR : ∀ k j, xNR k j = false → scM k j = false := by
  intro k j h
  unfold xNR at h
  unfold scM
  simp only [Bool.and_eq_false_iff, decide_eq_false_iff_not, Bool.or_eq_false_iff, beq_eq_false_iff_ne, ne_eq] at h ⊢
  omega
theorem sb_scT_xNR : ∀ k j, xNR k j = false → scT k j = false := by
  intro k j h
  unfold xNR at h
  unfold scT
  simp only [Bool.and_eq_false_iff, decide_eq_false_iff_not, Bool.or_eq_false_iff, beq_eq_false_iff_ne, ne_eq] at h ⊢
  omega
theorem sb_scR_xNR : ∀ k j, xNR k j = false → scR k j = false := by
  intro k j h
  unfold xNR at h
  unfold scR
  simp only [Bool.and_eq_false_iff, decide_eq_false_iff_not, Bool.or_eq_false_iff, beq_eq_false_iff_ne, ne_eq] at h ⊢
  omega
theorem sb_scN_xNR : ∀ k j, xNR k j = false → scN k j = false := by
  intro k j h
  unfold xNR at h
  unfold scN
  simp only [Bool.and_eq_false_iff, decide_eq_false_iff_not, Bool.or_eq_false_iff, beq_eq_false_iff_ne, ne_eq] at h ⊢
  omega
theorem sb_scP_xNR : ∀ k j, xNR k j = false → scP k j = false := by
  intro k j h
  unfold xNR at h
  unfold scP
  simp only [Bool.and_eq_false_iff, decide_eq_false_iff_not, Bool.or_eq_false_iff, beq_eq_false_iff_ne, ne_eq] at h ⊢
  omega
theorem sb_scC_xNR : ∀ k j, xNR k j = false → scC k j = false := by
  intro k j h
  unfold xNR at h
  unfold scC
  simp only [Bool.and_eq_false_iff, decide_eq_false_iff_not, Bool.or_eq_false_iff, beq_eq_false_iff_ne, ne_eq] at h ⊢
  omega
theorem sb_scW_xNR : ∀ k j, xNR k j = false → scW k j = false := by
  intro k j h
  unfold xNR at h
  unfold scW
  simp only [Bool.and_eq_false_iff, decide_eq_false_iff_not, Bool.or_eq_false_iff, beq_eq_false_iff_ne, ne_eq] at h ⊢
  omega
theorem sb_scI_xNR : ∀ k j, xNR k j = false → scI k j = false := by
  intro k j h
  unfold xNR at h
  unfold scI
  simp only [Bool.and_eq_false_iff, decide_eq_false_iff_not, Bool.or_eq_false_iff, beq_eq_false_iff_ne, ne_eq] at h ⊢
  omega
theorem sb_scA_xNR : ∀ k j, xNR k j = false → scA k j = false := by
  intro k j h
  unfold xNR at h
  unfold scA
  simp only [Bool.and_eq_false_iff, decide_eq_false_iff_not, Bool.or_eq_false_iff, beq_eq_false_iff_ne, ne_eq] at h ⊢
  omega
theorem sb_scAc_xNR : ∀ k j, xNR k j = false → scAc k j = false := by
  intro k j h
  unfold xNR at h
  unfold scAc
  simp only [Bool.and_eq_false_iff, decide_eq_false_iff_not, Bool.or_eq_false_iff, beq_eq_false_iff_ne, ne_eq] at h ⊢
  omega
theorem sb_scFd_xNR : ∀ k j, xNR k j = false → scFd k j = false := by
  intro k j h
  unfold xNR at h
  unfold scFd
  simp only [Bool.and_eq_false_iff, decide_eq_false_iff_not, Bool.or_eq_false_iff, beq_eq_false_iff_ne, ne_eq] at h ⊢
  omega
theorem sb_scTa_xNR : ∀ k j, xNR k j = false → scTa k j = false := by
  intro k j h
  unfold xNR at h
  unfold scTa
  simp only [Bool.and_eq_false_iff, decide_eq_false_iff_not, Bool.or_eq_false_iff, beq_eq_false_iff_ne, ne_eq] at h ⊢
  omega
theorem sb_scTw_xNR : ∀ k j, xNR k j = false → scTw k j = false := by
  intro k j h
  unfold xNR at h
  unfold scTw
  simp only [Bool.and_eq_false_iff, decide_eq_false_iff_not, Bool.or_eq_false_iff, beq_eq_false_iff_ne, ne_eq] at h ⊢
  omega
theorem sb_scTp_xNR : ∀ k j, xNR k j = false → scTp k j = false := by
  intro k j h
  unfold xNR at h
  unfold scTp
  simp only [Bool.and_eq_false_iff, decide_eq_false_iff_not, Bool.or_eq_false_iff, beq_eq_false_iff_ne, ne_eq] at h ⊢
  omega
theorem sb_scJ_jNR : ∀ k j, jNR k j = false → scJ k j = false := by
  intro k j h
  unfold jNR at h
  unfold scJ
  simp only [Bool.and_eq_false_iff, Bool.not_eq_false', decide_eq_false_iff_not, Bool.or_eq_false_iff, beq_eq_false_iff_ne, ne_eq, Bool.or_eq_true, Bool.and_eq_true, beq_iff_eq] at h ⊢
  omega
theorem sb_jcC_jNR : ∀ k j, jNR k j = false → jcC k j = false := by
  intro k j h
  unfold jNR at h
  unfold jcC
  simp only [Bool.and_eq_false_iff, Bool.not_eq_false', decide_eq_false_iff_not, Bool.or_eq_false_iff, beq_eq_false_iff_ne, ne_eq, Bool.or_eq_true, Bool.and_eq_true, beq_iff_eq] at h ⊢
  omega
theorem sb_jcV_jNR : ∀ k j, jNR k j = false → jcV k j = false := by
  intro k j h
  unfold jNR at h
  unfold jcV
  simp only [Bool.and_eq_false_iff, Bool.not_eq_false', decide_eq_false_iff_not, Bool.or_eq_false_iff, beq_eq_false_iff_ne, ne_eq, Bool.or_eq_true, Bool.and_eq_true, beq_iff_eq] at h ⊢
  omega
theorem sb_jcN_jNR : ∀ k j, jNR k j = false → jcN k j = false := by
  intro k j h
  unfold jNR at h
  unfold jcN
  simp only [Bool.and_eq_false_iff, Bool.not_eq_false', decide_eq_false_iff_not, Bool.or_eq_false_iff, beq_eq_false_iff_ne, ne_eq, Bool.or_eq_true, Bool.and_eq_true, beq_iff_eq] at h ⊢
  omega
theorem sb_jcP_jNR : ∀ k j, jNR k j = false → jcP k j = false := by
  intro k j h
  unfold jNR at h
  unfold jcP
  simp only [Bool.and_eq_false_iff, Bool.not_eq_false', decide_eq_false_iff_not, Bool.or_eq_false_iff, beq_eq_false_iff_ne, ne_eq, Bool.or_eq_true, Bool.and_eq_true, beq_iff_eq] at h ⊢
  omega
theorem sb_jcH_jNR : ∀ k j, jNR k j = false → jcH k j = false := by
  intro k j h
  unfold jNR at h
  unfold jcH
  simp only [Bool.and_eq_false_iff, Bool.not_eq_false', decide_eq_false_iff_not, Bool.or_eq_false_iff, beq_eq_false_iff_ne, ne_eq, Bool.or_eq_true, Bool.and_eq_true, beq_iff_eq] at h ⊢
  omega
theorem sb_jcO_jNR : ∀ k j, jNR k j = false → jcO k j = false := by
  intro k j h
  unfold jNR at h
  unfold jcO
  simp only [Bool.and_eq_false_iff, Bool.not_eq_false', decide_eq_false_iff_not, Bool.or_eq_false_iff, beq_eq_false_iff_ne, ne_eq, Bool.or_eq_true, Bool.and_eq_true, beq_iff_eq] at h ⊢
  omega
theorem sb_jcA_jNR : ∀ k j, jNR k j = false → jcA k j = false := by
  intro k j h
  unfold jNR at h
  unfold jcA
  simp only [Bool.and_eq_false_iff, Bool.not_eq_false', decide_eq_false_iff_not, Bool.or_eq_false_iff, beq_eq_false_iff_ne, ne_eq, Bool.or_eq_true, Bool.and_eq_true, beq_iff_eq] at h ⊢
  omega
theorem sb_jcD_jNR : ∀ k j, jNR k j = false → jcD k j = false := by
  intro k j h
  unfold jNR at h
  unfold jcD
  simp only [Bool.and_eq_false_iff, Bool.not_eq_false', decide_eq_false_iff_not, Bool.or_eq_false_iff, beq_eq_false_iff_ne, ne_eq, Bool.or_eq_true, Bool.and_eq_true, beq_iff_eq] at h ⊢
  omega
theorem sb_jcW_jNR : ∀ k j, jNR k j = false → jcW k j = false := by
  intro k j h
  unfold jNR at h
  unfold jcW
  simp only [Bool.and_eq_false_iff, Bool.not_eq_false', decide_eq_false_iff_not, Bool.or_eq_false_iff, beq_eq_false_iff_ne, ne_eq, Bool.or_eq_true, Bool.and_eq_true, beq_iff_eq] at h ⊢
  omega
theorem sb_jcS_jNR : ∀ k j, jNR k j = false → jcS k j = false := by
  intro k j h
  unfold jNR at h
  unfold jcS
  simp only [Bool.and_eq_false_iff, Bool.not_eq_false', decide_eq_false_iff_not, Bool.or_eq_false_iff, beq_eq_false_iff_ne, ne_eq, Bool.or_eq_true, Bool.and_eq_true, beq_iff_eq] at h ⊢
  omega
theorem sb_jcT_jNR : ∀ k j, jNR k j = false → jcT k j = false := by
  intro k j h
  unfold jNR at h
  unfold jcT
  simp only [Bool.and_eq_false_iff, Bool.not_eq_false', decide_eq_false_iff_not, Bool.or_eq_false_iff, beq_eq_false_iff_ne, ne_eq, Bool.or_eq_true, Bool.and_eq_true, beq_iff_eq] at h ⊢
  omega
theorem sb_jcHd_jNR : ∀ k j, jNR k j = false → jcHd k j = false := by
  intro k j h
  unfold jNR at h
  unfold jcHd
  simp only [Bool.and_eq_false_iff, Bool.not_eq_false', decide_eq_false_iff_not, Bool.or_eq_false_iff, beq_eq_false_iff_ne, ne_eq, Bool.or_eq_true, Bool.and_eq_true, beq_iff_eq] at h ⊢
  omega
theorem sb_jcE_jNR : ∀ k j, jNR k j = false → jcE k j = false := by
  intro k j h
  unfold jNR at h
  unfold jcE
  simp only [Bool.and_eq_false_iff, Bool.not_eq_false', decide_eq_false_iff_not, Bool.or_eq_false_iff, beq_eq_false_iff_ne, ne_eq, Bool.or_eq_true, Bool.and_eq_true, beq_iff_eq] at h ⊢
  omega
theorem sb_jcL_jNR : ∀ k j, jNR k j = false → jcL k j = false := by
  intro k j h
  unfold jNR at h
  unfold jcL
  simp only [Bool.and_eq_false_iff, Bool.not_eq_false', decide_eq_false_iff_not, Bool.or_eq_false_iff, beq_eq_false_iff_ne, ne_eq, Bool.or_eq_true, Bool.and_eq_true, beq_iff_eq] at h ⊢
  omega
theorem sb_jcG_jNR : ∀ k j, jNR k j = false → jcG k j = false := by
  intro k j h
  unfold jNR at h
  unfold jcG
  simp only [Bool.and_eq_false_iff, Bool.not_eq_false', decide_eq_false_iff_not, Bool.or_eq_false_iff, beq_eq_false_iff_ne, ne_eq, Bool.or_eq_true, Bool.and_eq_true, beq_iff_eq] at h ⊢
  omega
theorem sb_jcK_jNR : ∀ k j, jNR k j = false → jcK k j = false := by
  intro k j h
  unfold jNR at h
  unfold jcK
  simp only [Bool.and_eq_false_iff, Bool.not_eq_false', decide_eq_false_iff_not, Bool.or_eq_false_iff, beq_eq_false_iff_ne, ne_eq, Bool.or_eq_true, Bool.and_eq_true, beq_iff_eq] at h ⊢
  omega
theorem sb_jcFd_jNR : ∀ k j, jNR k j = false → jcFd k j = false := by
  intro k j h
  unfold jNR at h
  unfold jcFd
  simp only [Bool.and_eq_false_iff, Bool.not_eq_false', decide_eq_false_iff_not, Bool.or_eq_false_iff, beq_eq_false_iff_ne, ne_eq, Bool.or_eq_true, Bool.and_eq_true, beq_iff_eq] at h ⊢
  omega
theorem sb_jcTw_jNR : ∀ k j, jNR k j = false → jcTw k j = false := by
  intro k j h
  unfold jNR at h
  unfold jcTw
  simp only [Bool.and_eq_false_iff, Bool.not_eq_false', decide_eq_false_iff_not, Bool.or_eq_false_iff, beq_eq_false_iff_ne, ne_eq, Bool.or_eq_true, Bool.and_eq_true, beq_iff_eq] at h ⊢
  omega
theorem sb_jcSh_jNR : ∀ k j, jNR k j = false → jcSh k j = false := by
  intro k j h
  unfold jNR at h
  unfold jcSh
  simp only [Bool.and_eq_false_iff, Bool.not_eq_false', decide_eq_false_iff_not, Bool.or_eq_false_iff, beq_eq_false_iff_ne, ne_eq, Bool.or_eq_true, Bool.and_eq_true, beq_iff_eq] at h ⊢
  omega
theorem sb_jcTp_jNR : ∀ k j, jNR k j = false → jcTp k j = false := by
  intro k j h
  unfold jNR at h
  unfold jcTp
  simp only [Bool.and_eq_false_iff, Bool.not_eq_false', decide_eq_false_iff_not, Bool.or_eq_false_iff, beq_eq_false_iff_ne, ne_eq, Bool.or_eq_true, Bool.and_eq_true, beq_iff_eq] at h ⊢
  omega
def xNT (k : Nat) (_ : Int) : Bool := decide (k < 69) && !(decide (25 ≤ k) && decide (k ≤ 32))
def jNT (k : Nat) (_ : Int) : Bool := decide (69 ≤ k) && !(k == 109 || k == 110 || k == 111)
theorem sb_scX_xNT : ∀ k j, xNT k j = false → scX k j = false := by
  intro k j h
  unfold xNT at h
  unfold scX
  simp only [Bool.and_eq_false_iff, Bool.not_eq_false', decide_eq_false_iff_not, Bool.or_eq_false_iff, beq_eq_false_iff_ne, ne_eq, Bool.or_eq_true, Bool.and_eq_true, beq_iff_eq, decide_eq_true_eq] at h ⊢
  omega
theorem sb_scM_xNT : ∀ k j, xNT k j = false → scM k j = false := by
  intro k j h
  unfold xNT at h
  unfold scM
  simp only [Bool.and_eq_false_iff, Bool.not_eq_false', decide_eq_false_iff_not, Bool.or_eq_false_iff, beq_eq_false_iff_ne, ne_eq, Bool.or_eq_true, Bool.and_eq_true, beq_iff_eq, decide_eq_true_eq] at h ⊢
  omega
theorem sb_scT_xNT : ∀ k j, xNT k j = false → scT k j = false := by
  intro k j h
  unfold xNT at h
  unfold scT
  simp only [Bool.and_eq_false_iff, Bool.not_eq_false', decide_eq_false_iff_not, Bool.or_eq_false_iff, beq_eq_false_iff_ne, ne_eq, Bool.or_eq_true, Bool.and_eq_true, beq_iff_eq, decide_eq_true_eq] at h ⊢
  omega
theorem sb_scR_xNT : ∀ k j, xNT k j = false → scR k j = false := by
  intro k j h
  unfold xNT at h
  unfold scR
  simp only [Bool.and_eq_false_iff, Bool.not_eq_false', decide_eq_false_iff_not, Bool.or_eq_false_iff, beq_eq_false_iff_ne, ne_eq, Bool.or_eq_true, Bool.and_eq_true, beq_iff_eq, decide_eq_true_eq] at h ⊢
  omega
theorem sb_scN_xNT : ∀ k j, xNT k j = false → scN k j = false := by
  intro k j h
  unfold xNT at h
  unfold scN
  simp only [Bool.and_eq_false_iff, Bool.not_eq_false', decide_eq_false_iff_not, Bool.or_eq_false_iff, beq_eq_false_iff_ne, ne_eq, Bool.or_eq_true, Bool.and_eq_true, beq_iff_eq, decide_eq_true_eq] at h ⊢
  omega
theorem sb_scP_xNT : ∀ k j, xNT k j = false → scP k j = false := by
  intro k j h
  unfold xNT at h
  unfold scP
  simp only [Bool.and_eq_false_iff, Bool.not_eq_false', decide_eq_false_iff_not, Bool.or_eq_false_iff, beq_eq_false_iff_ne, ne_eq, Bool.or_eq_true, Bool.and_eq_true, beq_iff_eq, decide_eq_true_eq] at h ⊢
  omega
theorem sb_scC_xNT : ∀ k j, xNT k j = false → scC k j = false := by
  intro k j h
  unfold xNT at h
  unfold scC
  simp only [Bool.and_eq_false_iff, Bool.not_eq_false', decide_eq_false_iff_not, Bool.or_eq_false_iff, beq_eq_false_iff_ne, ne_eq, Bool.or_eq_true, Bool.and_eq_true, beq_iff_eq, decide_eq_true_eq] at h ⊢
  omega
theorem sb_scW_xNT : ∀ k j, xNT k j = false → scW k j = false := by
  intro k j h
  unfold xNT at h
  unfold scW
  simp only [Bool.and_eq_false_iff, Bool.not_eq_false', decide_eq_false_iff_not, Bool.or_eq_false_iff, beq_eq_false_iff_ne, ne_eq, Bool.or_eq_true, Bool.and_eq_true, beq_iff_eq, decide_eq_true_eq] at h ⊢
  omega
theorem sb_scA_xNT : ∀ k j, xNT k j = false → scA k j = false := by
  intro k j h
  unfold xNT at h
  unfold scA
  simp only [Bool.and_eq_false_iff, Bool.not_eq_false', decide_eq_false_iff_not, Bool.or_eq_false_iff, beq_eq_false_iff_ne, ne_eq, Bool.or_eq_true, Bool.and_eq_true, beq_iff_eq, decide_eq_true_eq] at h ⊢
  omega
theorem sb_scAc_xNT : ∀ k j, xNT k j = false → scAc k j = false := by
  intro k j h
  unfold xNT at h
  unfold scAc
  simp only [Bool.and_eq_false_iff, Bool.not_eq_false', decide_eq_false_iff_not, Bool.or_eq_false_iff, beq_eq_false_iff_ne, ne_eq, Bool.or_eq_true, Bool.and_eq_true, beq_iff_eq, decide_eq_true_eq] at h ⊢
  omega
theorem sb_scFd_xNT : ∀ k j, xNT k j = false → scFd k j = false := by
  intro k j h
  unfold xNT at h
  unfold scFd
  simp only [Bool.and_eq_false_iff, Bool.not_eq_false', decide_eq_false_iff_not, Bool.or_eq_false_iff, beq_eq_false_iff_ne, ne_eq, Bool.or_eq_true, Bool.and_eq_true, beq_iff_eq, decide_eq_true_eq] at h ⊢
  omega
theorem sb_scTa_xNT : ∀ k j, xNT k j = false → scTa k j = false := by
  intro k j h
  unfold xNT at h
  unfold scTa
  simp only [Bool.and_eq_false_iff, Bool.not_eq_false', decide_eq_false_iff_not, Bool.or_eq_false_iff, beq_eq_false_iff_ne, ne_eq, Bool.or_eq_true, Bool.and_eq_true, beq_iff_eq, decide_eq_true_eq] at h ⊢
  omega
theorem sb_scTw_xNT : ∀ k j, xNT k j = false → scTw k j = false := by
  intro k j h
  unfold xNT at h
  unfold scTw
  simp only [Bool.and_eq_false_iff, Bool.not_eq_false', decide_eq_false_iff_not, Bool.or_eq_false_iff, beq_eq_false_iff_ne, ne_eq, Bool.or_eq_true, Bool.and_eq_true, beq_iff_eq, decide_eq_true_eq] at h ⊢
  omega
theorem sb_scCn_xNT : ∀ k j, xNT k j = false → scCn k j = false := by
  intro k j h
  unfold xNT at h
  unfold scCn
  simp only [Bool.and_eq_false_iff, Bool.not_eq_false', decide_eq_false_iff_not, Bool.or_eq_false_iff, beq_eq_false_iff_ne, ne_eq, Bool.or_eq_true, Bool.and_eq_true, beq_iff_eq, decide_eq_true_eq] at h ⊢
  omega
theorem sb_scCk_xNT : ∀ k j, xNT k j = false → scCk k j = false := by
  intro k j h
  unfold xNT at h
  unfold scCk
  simp only [Bool.and_eq_false_iff, Bool.not_eq_false', decide_eq_false_iff_not, Bool.or_eq_false_iff, beq_eq_false_iff_ne, ne_eq, Bool.or_eq_true, Bool.and_eq_true, beq_iff_eq, decide_eq_true_eq] at h ⊢
  omega
theorem sb_scC10_xNT : ∀ k j, xNT k j = false → scC10 k j = false := by
  intro k j h
  unfold xNT at h
  unfold scC10
  simp only [Bool.and_eq_false_iff, Bool.not_eq_false', decide_eq_false_iff_not, Bool.or_eq_false_iff, beq_eq_false_iff_ne, ne_eq, Bool.or_eq_true, Bool.and_eq_true, beq_iff_eq, decide_eq_true_eq] at h ⊢
  omega
theorem sb_scC13_xNT : ∀ k j, xNT k j = false → scC13 k j = false := by
  intro k j h
  unfold xNT at h
  unfold scC13
  simp only [Bool.and_eq_false_iff, Bool.not_eq_false', decide_eq_false_iff_not, Bool.or_eq_false_iff, beq_eq_false_iff_ne, ne_eq, Bool.or_eq_true, Bool.and_eq_true, beq_iff_eq, decide_eq_true_eq] at h ⊢
  omega
theorem sb_scC16_xNT : ∀ k j, xNT k j = false → scC16 k j = false := by
  intro k j h
  unfold xNT at h
  unfold scC16
  simp only [Bool.and_eq_false_iff, Bool.not_eq_false', decide_eq_false_iff_not, Bool.or_eq_false_iff, beq_eq_false_iff_ne, ne_eq, Bool.or_eq_true, Bool.and_eq_true, beq_iff_eq, decide_eq_true_eq] at h ⊢
  omega
theorem sb_scC42_xNT : ∀ k j, xNT k j = false → scC42 k j = false := by
  intro k j h
  unfold xNT at h
  unfold scC42
  simp only [Bool.and_eq_false_iff, Bool.not_eq_false', decide_eq_false_iff_not, Bool.or_eq_false_iff, beq_eq_false_iff_ne, ne_eq, Bool.or_eq_true, Bool.and_eq_true, beq_iff_eq, decide_eq_true_eq] at h ⊢
  omega
theorem sb_scC45_xNT : ∀ k j, xNT k j = false → scC45 k j = false := by
  intro k j h
  unfold xNT at h
  unfold scC45
  simp only [Bool.and_eq_false_iff, Bool.not_eq_false', decide_eq_false_iff_not, Bool.or_eq_false_iff, beq_eq_false_iff_ne, ne_eq, Bool.or_eq_true, Bool.and_eq_true, beq_iff_eq, decide_eq_true_eq] at h ⊢
  omega
theorem sb_scC48_xNT : ∀ k j, xNT k j = false → scC48 k j = false := by
  intro k j h
  unfold xNT at h
  unfold scC48
  simp only [Bool.and_eq_false_iff, Bool.not_eq_false', decide_eq_false_iff_not, Bool.or_eq_false_iff, beq_eq_false_iff_ne, ne_eq, Bool.or_eq_true, Bool.and_eq_true, beq_iff_eq, decide_eq_true_eq] at h ⊢
  omega
theorem sb_scJ_jNT : ∀ k j, jNT k j = false → scJ k j = false := by
  intro k j h
  unfold jNT at h
  unfold scJ
  simp only [Bool.and_eq_false_iff, Bool.not_eq_false', decide_eq_false_iff_not, Bool.or_eq_false_iff, beq_eq_false_iff_ne, ne_eq, Bool.or_eq_true, Bool.and_eq_true, beq_iff_eq, decide_eq_true_eq] at h ⊢
  omega
theorem sb_jcC_jNT : ∀ k j, jNT k j = false → jcC k j = false := by
  intro k j h
  unfold jNT at h
  unfold jcC
  simp only [Bool.and_eq_false_iff, Bool.not_eq_false', decide_eq_false_iff_not, Bool.or_eq_false_iff, beq_eq_false_iff_ne, ne_eq, Bool.or_eq_true, Bool.and_eq_true, beq_iff_eq, decide_eq_true_eq] at h ⊢
  omega
theorem sb_jcV_jNT : ∀ k j, jNT k j = false → jcV k j = false := by
  intro k j h
  unfold jNT at h
  unfold jcV
  simp only [Bool.and_eq_false_iff, Bool.not_eq_false', decide_eq_false_iff_not, Bool.or_eq_false_iff, beq_eq_false_iff_ne, ne_eq, Bool.or_eq_true, Bool.and_eq_true, beq_iff_eq, decide_eq_true_eq] at h ⊢
  omega
theorem sb_jcN_jNT : ∀ k j, jNT k j = false → jcN k j = false := by
  intro k j h
  unfold jNT at h
  unfold jcN
  simp only [Bool.and_eq_false_iff, Bool.not_eq_false', decide_eq_false_iff_not, Bool.or_eq_false_iff, beq_eq_false_iff_ne, ne_eq, Bool.or_eq_true, Bool.and_eq_true, beq_iff_eq, decide_eq_true_eq] at h ⊢
  omega
theorem sb_jcP_jNT : ∀ k j, jNT k j = false → jcP k j = false := by
  intro k j h
  unfold jNT at h
  unfold jcP
  simp only [Bool.and_eq_false_iff, Bool.not_eq_false', decide_eq_false_iff_not, Bool.or_eq_false_iff, beq_eq_false_iff_ne, ne_eq, Bool.or_eq_true, Bool.and_eq_true, beq_iff_eq, decide_eq_true_eq] at h ⊢
  omega
theorem sb_jcH_jNT : ∀ k j, jNT k j = false → jcH k j = false := by
  intro k j h
  unfold jNT at h
  unfold jcH
  simp only [Bool.and_eq_false_iff, Bool.not_eq_false', decide_eq_false_iff_not, Bool.or_eq_false_iff, beq_eq_false_iff_ne, ne_eq, Bool.or_eq_true, Bool.and_eq_true, beq_iff_eq, decide_eq_true_eq] at h ⊢
  omega
theorem sb_jcO_jNT : ∀ k j, jNT k j = false → jcO k j = false := by
  intro k j h
  unfold jNT at h
  unfold jcO
  simp only [Bool.and_eq_false_iff, Bool.not_eq_false', decide_eq_false_iff_not, Bool.or_eq_false_iff, beq_eq_false_iff_ne, ne_eq, Bool.or_eq_true, Bool.and_eq_true, beq_iff_eq, decide_eq_true_eq] at h ⊢
  omega
theorem sb_jcB_jNT : ∀ k j, jNT k j = false → jcB k j = false := by
  intro k j h
  unfold jNT at h
  unfold jcB
  simp only [Bool.and_eq_false_iff, Bool.not_eq_false', decide_eq_false_iff_not, Bool.or_eq_false_iff, beq_eq_false_iff_ne, ne_eq, Bool.or_eq_true, Bool.and_eq_true, beq_iff_eq, decide_eq_true_eq] at h ⊢
  omega
theorem sb_jcA_jNT : ∀ k j, jNT k j = false → jcA k j = false := by
  intro k j h
  unfold jNT at h
  unfold jcA
  simp only [Bool.and_eq_false_iff, Bool.not_eq_false', decide_eq_false_iff_not, Bool.or_eq_false_iff, beq_eq_false_iff_ne, ne_eq, Bool.or_eq_true, Bool.and_eq_true, beq_iff_eq, decide_eq_true_eq] at h ⊢
  omega
theorem sb_jcD_jNT : ∀ k j, jNT k j = false → jcD k j = false := by
  intro k j h
  unfold jNT at h
  unfold jcD
  simp only [Bool.and_eq_false_iff, Bool.not_eq_false', decide_eq_false_iff_not, Bool.or_eq_false_iff, beq_eq_false_iff_ne, ne_eq, Bool.or_eq_true, Bool.and_eq_true, beq_iff_eq, decide_eq_true_eq] at h ⊢
  omega
theorem sb_jcW_jNT : ∀ k j, jNT k j = false → jcW k j = false := by
  intro k j h
  unfold jNT at h
  unfold jcW
  simp only [Bool.and_eq_false_iff, Bool.not_eq_false', decide_eq_false_iff_not, Bool.or_eq_false_iff, beq_eq_false_iff_ne, ne_eq, Bool.or_eq_true, Bool.and_eq_true, beq_iff_eq, decide_eq_true_eq] at h ⊢
  omega
theorem sb_jcS_jNT : ∀ k j, jNT k j = false → jcS k j = false := by
  intro k j h
  unfold jNT at h
  unfold jcS
  simp only [Bool.and_eq_false_iff, Bool.not_eq_false', decide_eq_false_iff_not, Bool.or_eq_false_iff, beq_eq_false_iff_ne, ne_eq, Bool.or_eq_true, Bool.and_eq_true, beq_iff_eq, decide_eq_true_eq] at h ⊢
  omega
theorem sb_jcT_jNT : ∀ k j, jNT k j = false → jcT k j = false := by
  intro k j h
  unfold jNT at h
  unfold jcT
  simp only [Bool.and_eq_false_iff, Bool.not_eq_false', decide_eq_false_iff_not, Bool.or_eq_false_iff, beq_eq_false_iff_ne, ne_eq, Bool.or_eq_true, Bool.and_eq_true, beq_iff_eq, decide_eq_true_eq] at h ⊢
  omega
theorem sb_jcHd_jNT : ∀ k j, jNT k j = false → jcHd k j = false := by
  intro k j h
  unfold jNT at h
  unfold jcHd
  simp only [Bool.and_eq_false_iff, Bool.not_eq_false', decide_eq_false_iff_not, Bool.or_eq_false_iff, beq_eq_false_iff_ne, ne_eq, Bool.or_eq_true, Bool.and_eq_true, beq_iff_eq, decide_eq_true_eq] at h ⊢
  omega
theorem sb_jcE_jNT : ∀ k j, jNT k j = false → jcE k j = false := by
  intro k j h
  unfold jNT at h
  unfold jcE
  simp only [Bool.and_eq_false_iff, Bool.not_eq_false', decide_eq_false_iff_not, Bool.or_eq_false_iff, beq_eq_false_iff_ne, ne_eq, Bool.or_eq_true, Bool.and_eq_true, beq_iff_eq, decide_eq_true_eq] at h ⊢
  omega
theorem sb_jcL_jNT : ∀ k j, jNT k j = false → jcL k j = false := by
  intro k j h
  unfold jNT at h
  unfold jcL
  simp only [Bool.and_eq_false_iff, Bool.not_eq_false', decide_eq_false_iff_not, Bool.or_eq_false_iff, beq_eq_false_iff_ne, ne_eq, Bool.or_eq_true, Bool.and_eq_true, beq_iff_eq, decide_eq_true_eq] at h ⊢
  omega
theorem sb_jcG_jNT : ∀ k j, jNT k j = false → jcG k j = false := by
  intro k j h
  unfold jNT at h
  unfold jcG
  simp only [Bool.and_eq_false_iff, Bool.not_eq_false', decide_eq_false_iff_not, Bool.or_eq_false_iff, beq_eq_false_iff_ne, ne_eq, Bool.or_eq_true, Bool.and_eq_true, beq_iff_eq, decide_eq_true_eq] at h ⊢
  omega
theorem sb_jcK_jNT : ∀ k j, jNT k j = false → jcK k j = false := by
  intro k j h
  unfold jNT at h
  unfold jcK
  simp only [Bool.and_eq_false_iff, Bool.not_eq_false', decide_eq_false_iff_not, Bool.or_eq_false_iff, beq_eq_false_iff_ne, ne_eq, Bool.or_eq_true, Bool.and_eq_true, beq_iff_eq, decide_eq_true_eq] at h ⊢
  omega
theorem sb_jcFd_jNT : ∀ k j, jNT k j = false → jcFd k j = false := by
  intro k j h
  unfold jNT at h
  unfold jcFd
  simp only [Bool.and_eq_false_iff, Bool.not_eq_false', decide_eq_false_iff_not, Bool.or_eq_false_iff, beq_eq_false_iff_ne, ne_eq, Bool.or_eq_true, Bool.and_eq_true, beq_iff_eq, decide_eq_true_eq] at h ⊢
  omega
theorem sb_jcTw_jNT : ∀ k j, jNT k j = false → jcTw k j = false := by
  intro k j h
  unfold jNT at h
  unfold jcTw
  simp only [Bool.and_eq_false_iff, Bool.not_eq_false', decide_eq_false_iff_not, Bool.or_eq_false_iff, beq_eq_false_iff_ne, ne_eq, Bool.or_eq_true, Bool.and_eq_true, beq_iff_eq, decide_eq_true_eq] at h ⊢
  omega
theorem sb_jcMm_jNT : ∀ k j, jNT k j = false → jcMm k j = false := by
  intro k j h
  unfold jNT at h
  unfold jcMm
  simp only [Bool.and_eq_false_iff, Bool.not_eq_false', decide_eq_false_iff_not, Bool.or_eq_false_iff, beq_eq_false_iff_ne, ne_eq, Bool.or_eq_true, Bool.and_eq_true, beq_iff_eq, decide_eq_true_eq] at h ⊢
  omega
theorem sb_jcMf_jNT : ∀ k j, jNT k j = false → jcMf k j = false := by
  intro k j h
  unfold jNT at h
  unfold jcMf
  simp only [Bool.and_eq_false_iff, Bool.not_eq_false', decide_eq_false_iff_not, Bool.or_eq_false_iff, beq_eq_false_iff_ne, ne_eq, Bool.or_eq_true, Bool.and_eq_true, beq_iff_eq, decide_eq_true_eq] at h ⊢
  omega
theorem sb_jcMk_jNT : ∀ k j, jNT k j = false → jcMk k j = false := by
  intro k j h
  unfold jNT at h
  unfold jcMk
  simp only [Bool.and_eq_false_iff, Bool.not_eq_false', decide_eq_false_iff_not, Bool.or_eq_false_iff, beq_eq_false_iff_ne, ne_eq, Bool.or_eq_true, Bool.and_eq_true, beq_iff_eq, decide_eq_true_eq] at h ⊢
  omega
theorem sb_jcI_jNT : ∀ k j, jNT k j = false → jcI k j = false := by
  intro k j h
  unfold jNT at h
  unfold jcI
  simp only [Bool.and_eq_false_iff, Bool.not_eq_false', decide_eq_false_iff_not, Bool.or_eq_false_iff, beq_eq_false_iff_ne, ne_eq, Bool.or_eq_true, Bool.and_eq_true, beq_iff_eq, decide_eq_true_eq] at h ⊢
  omega
theorem sb_jcU_jNT : ∀ k j, jNT k j = false → jcU k j = false := by
  intro k j h
  unfold jNT at h
  unfold jcU
  simp only [Bool.and_eq_false_iff, Bool.not_eq_false', decide_eq_false_iff_not, Bool.or_eq_false_iff, beq_eq_false_iff_ne, ne_eq, Bool.or_eq_true, Bool.and_eq_true, beq_iff_eq, decide_eq_true_eq] at h ⊢
  omega
theorem sb_jcKeep_jNT : ∀ k j, jNT k j = false → jcKeep k j = false := by
  intro k j h
  unfold jNT at h
  unfold jcKeep
  simp only [Bool.and_eq_false_iff, Bool.not_eq_false', decide_eq_false_iff_not, Bool.or_eq_false_iff, beq_eq_false_iff_ne, ne_eq, Bool.or_eq_true, Bool.and_eq_true, beq_iff_eq, decide_eq_true_eq] at h ⊢
  omega
def xNA (k : Nat) (j : Int) : Bool := decide (k < 69) && !(k == 22 || (k == 21 && j == 1))
def jNA (k : Nat) (j : Int) : Bool := decide (69 ≤ k) && !(k == 108 || (k == 69 && j == 64))
theorem sb_scX_xNA : ∀ k j, xNA k j = false → scX k j = false := by
  intro k j h
  unfold xNA at h
  unfold scX
  simp only [Bool.and_eq_false_iff, Bool.not_eq_false', decide_eq_false_iff_not, Bool.or_eq_false_iff, beq_eq_false_iff_ne, ne_eq, Bool.or_eq_true, Bool.and_eq_true, beq_iff_eq, decide_eq_true_eq] at h ⊢
  omega
theorem sb_scM_xNA : ∀ k j, xNA k j = false → scM k j = false := by
  intro k j h
  unfold xNA at h
  unfold scM
  simp only [Bool.and_eq_false_iff, Bool.not_eq_false', decide_eq_false_iff_not, Bool.or_eq_false_iff, beq_eq_false_iff_ne, ne_eq, Bool.or_eq_true, Bool.and_eq_true, beq_iff_eq, decide_eq_true_eq] at h ⊢
  omega
theorem sb_scT_xNA : ∀ k j, xNA k j = false → scT k j = false := by
  intro k j h
  unfold xNA at h
  unfold scT
  simp only [Bool.and_eq_false_iff, Bool.not_eq_false', decide_eq_false_iff_not, Bool.or_eq_false_iff, beq_eq_false_iff_ne, ne_eq, Bool.or_eq_true, Bool.and_eq_true, beq_iff_eq, decide_eq_true_eq] at h ⊢
  omega
theorem sb_scR_xNA : ∀ k j, xNA k j = false → scR k j = false := by
  intro k j h
  unfold xNA at h
  unfold scR
  simp only [Bool.and_eq_false_iff, Bool.not_eq_false', decide_eq_false_iff_not, Bool.or_eq_false_iff, beq_eq_false_iff_ne, ne_eq, Bool.or_eq_true, Bool.and_eq_true, beq_iff_eq, decide_eq_true_eq] at h ⊢
  omega
theorem sb_scN_xNA : ∀ k j, xNA k j = false → scN k j = false := by
  intro k j h
  unfold xNA at h
  unfold scN
  simp only [Bool.and_eq_false_iff, Bool.not_eq_false', decide_eq_false_iff_not, Bool.or_eq_false_iff, beq_eq_false_iff_ne, ne_eq, Bool.or_eq_true, Bool.and_eq_true, beq_iff_eq, decide_eq_true_eq] at h ⊢
  omega
theorem sb_scP_xNA : ∀ k j, xNA k j = false → scP k j = false := by
  intro k j h
  unfold xNA at h
  unfold scP
  simp only [Bool.and_eq_false_iff, Bool.not_eq_false', decide_eq_false_iff_not, Bool.or_eq_false_iff, beq_eq_false_iff_ne, ne_eq, Bool.or_eq_true, Bool.and_eq_true, beq_iff_eq, decide_eq_true_eq] at h ⊢
  omega
theorem sb_scC_xNA : ∀ k j, xNA k j = false → scC k j = false := by
  intro k j h
  unfold xNA at h
  unfold scC
  simp only [Bool.and_eq_false_iff, Bool.not_eq_false', decide_eq_false_iff_not, Bool.or_eq_false_iff, beq_eq_false_iff_ne, ne_eq, Bool.or_eq_true, Bool.and_eq_true, beq_iff_eq, decide_eq_true_eq] at h ⊢
  omega
theorem sb_scW_xNA : ∀ k j, xNA k j = false → scW k j = false := by
  intro k j h
  unfold xNA at h
  unfold scW
  simp only [Bool.and_eq_false_iff, Bool.not_eq_false', decide_eq_false_iff_not, Bool.or_eq_false_iff, beq_eq_false_iff_ne, ne_eq, Bool.or_eq_true, Bool.and_eq_true, beq_iff_eq, decide_eq_true_eq] at h ⊢
  omega
theorem sb_scI_xNA : ∀ k j, xNA k j = false → scI k j = false := by
  intro k j h
  unfold xNA at h
  unfold scI
  simp only [Bool.and_eq_false_iff, Bool.not_eq_false', decide_eq_false_iff_not, Bool.or_eq_false_iff, beq_eq_false_iff_ne, ne_eq, Bool.or_eq_true, Bool.and_eq_true, beq_iff_eq, decide_eq_true_eq] at h ⊢
  omega
theorem sb_scFd_xNA : ∀ k j, xNA k j = false → scFd k j = false := by
  intro k j h
  unfold xNA at h
  unfold scFd
  simp only [Bool.and_eq_false_iff, Bool.not_eq_false', decide_eq_false_iff_not, Bool.or_eq_false_iff, beq_eq_false_iff_ne, ne_eq, Bool.or_eq_true, Bool.and_eq_true, beq_iff_eq, decide_eq_true_eq] at h ⊢
  omega
theorem sb_scTa_xNA : ∀ k j, xNA k j = false → scTa k j = false := by
  intro k j h
  unfold xNA at h
  unfold scTa
  simp only [Bool.and_eq_false_iff, Bool.not_eq_false', decide_eq_false_iff_not, Bool.or_eq_false_iff, beq_eq_false_iff_ne, ne_eq, Bool.or_eq_true, Bool.and_eq_true, beq_iff_eq, decide_eq_true_eq] at h ⊢
  omega
theorem sb_scTw_xNA : ∀ k j, xNA k j = false → scTw k j = false := by
  intro k j h
  unfold xNA at h
  unfold scTw
  simp only [Bool.and_eq_false_iff, Bool.not_eq_false', decide_eq_false_iff_not, Bool.or_eq_false_iff, beq_eq_false_iff_ne, ne_eq, Bool.or_eq_true, Bool.and_eq_true, beq_iff_eq, decide_eq_true_eq] at h ⊢
  omega
theorem sb_scTp_xNA : ∀ k j, xNA k j = false → scTp k j = false := by
  intro k j h
  unfold xNA at h
  unfold scTp
  simp only [Bool.and_eq_false_iff, Bool.not_eq_false', decide_eq_false_iff_not, Bool.or_eq_false_iff, beq_eq_false_iff_ne, ne_eq, Bool.or_eq_true, Bool.and_eq_true, beq_iff_eq, decide_eq_true_eq] at h ⊢
  omega
theorem sb_scCn_xNA : ∀ k j, xNA k j = false → scCn k j = false := by
  intro k j h
  unfold xNA at h
  unfold scCn
  simp only [Bool.and_eq_false_iff, Bool.not_eq_false', decide_eq_false_iff_not, Bool.or_eq_false_iff, beq_eq_false_iff_ne, ne_eq, Bool.or_eq_true, Bool.and_eq_true, beq_iff_eq, decide_eq_true_eq] at h ⊢
  omega
theorem sb_scCk_xNA : ∀ k j, xNA k j = false → scCk k j = false := by
  intro k j h
  unfold xNA at h
  unfold scCk
  simp only [Bool.and_eq_false_iff, Bool.not_eq_false', decide_eq_false_iff_not, Bool.or_eq_false_iff, beq_eq_false_iff_ne, ne_eq, Bool.or_eq_true, Bool.and_eq_true, beq_iff_eq, decide_eq_true_eq] at h ⊢
  omega
theorem sb_scC10_xNA : ∀ k j, xNA k j = false → scC10 k j = false := by
  intro k j h
  unfold xNA at h
  unfold scC10
  simp only [Bool.and_eq_false_iff, Bool.not_eq_false', decide_eq_false_iff_not, Bool.or_eq_false_iff, beq_eq_false_iff_ne, ne_eq, Bool.or_eq_true, Bool.and_eq_true, beq_iff_eq, decide_eq_true_eq] at h ⊢
  omega
theorem sb_scC13_xNA : ∀ k j, xNA k j = false → scC13 k j = false := by
  intro k j h
  unfold xNA at h
  unfold scC13
  simp only [Bool.and_eq_false_iff, Bool.not_eq_false', decide_eq_false_iff_not, Bool.or_eq_false_iff, beq_eq_false_iff_ne, ne_eq, Bool.or_eq_true, Bool.and_eq_true, beq_iff_eq, decide_eq_true_eq] at h ⊢
  omega
theorem sb_scC16_xNA : ∀ k j, xNA k j = false → scC16 k j = false := by
  intro k j h
  unfold xNA at h
  unfold scC16
  simp only [Bool.and_eq_false_iff, Bool.not_eq_false', decide_eq_false_iff_not, Bool.or_eq_false_iff, beq_eq_false_iff_ne, ne_eq, Bool.or_eq_true, Bool.and_eq_true, beq_iff_eq, decide_eq_true_eq] at h ⊢
  omega
theorem sb_scC42_xNA : ∀ k j, xNA k j = false → scC42 k j = false := by
  intro k j h
  unfold xNA at h
  unfold scC42
  simp only [Bool.and_eq_false_iff, Bool.not_eq_false', decide_eq_false_iff_not, Bool.or_eq_false_iff, beq_eq_false_iff_ne, ne_eq, Bool.or_eq_true, Bool.and_eq_true, beq_iff_eq, decide_eq_true_eq] at h ⊢
  omega
theorem sb_scC45_xNA : ∀ k j, xNA k j = false → scC45 k j = false := by
  intro k j h
  unfold xNA at h
  unfold scC45
  simp only [Bool.and_eq_false_iff, Bool.not_eq_false', decide_eq_false_iff_not, Bool.or_eq_false_iff, beq_eq_false_iff_ne, ne_eq, Bool.or_eq_true, Bool.and_eq_true, beq_iff_eq, decide_eq_true_eq] at h ⊢
  omega
theorem sb_scC48_xNA : ∀ k j, xNA k j = false → scC48 k j = false := by
  intro k j h
  unfold xNA at h
  unfold scC48
  simp only [Bool.and_eq_false_iff, Bool.not_eq_false', decide_eq_false_iff_not, Bool.or_eq_false_iff, beq_eq_false_iff_ne, ne_eq, Bool.or_eq_true, Bool.and_eq_true, beq_iff_eq, decide_eq_true_eq] at h ⊢
  omega
theorem sb_scJ_jNA : ∀ k j, jNA k j = false → scJ k j = false := by
  intro k j h
  unfold jNA at h
  unfold scJ
  simp only [Bool.and_eq_false_iff, Bool.not_eq_false', decide_eq_false_iff_not, Bool.or_eq_false_iff, beq_eq_false_iff_ne, ne_eq, Bool.or_eq_true, Bool.and_eq_true, beq_iff_eq, decide_eq_true_eq] at h ⊢
  omega
theorem sb_jcC_jNA : ∀ k j, jNA k j = false → jcC k j = false := by
  intro k j h
  unfold jNA at h
  unfold jcC
  simp only [Bool.and_eq_false_iff, Bool.not_eq_false', decide_eq_false_iff_not, Bool.or_eq_false_iff, beq_eq_false_iff_ne, ne_eq, Bool.or_eq_true, Bool.and_eq_true, beq_iff_eq, decide_eq_true_eq] at h ⊢
  omega
theorem sb_jcV_jNA : ∀ k j, jNA k j = false → jcV k j = false := by
  intro k j h
  unfold jNA at h
  unfold jcV
  simp only [Bool.and_eq_false_iff, Bool.not_eq_false', decide_eq_false_iff_not, Bool.or_eq_false_iff, beq_eq_false_iff_ne, ne_eq, Bool.or_eq_true, Bool.and_eq_true, beq_iff_eq, decide_eq_true_eq] at h ⊢
  omega
theorem sb_jcN_jNA : ∀ k j, jNA k j = false → jcN k j = false := by
  intro k j h
  unfold jNA at h
  unfold jcN
  simp only [Bool.and_eq_false_iff, Bool.not_eq_false', decide_eq_false_iff_not, Bool.or_eq_false_iff, beq_eq_false_iff_ne, ne_eq, Bool.or_eq_true, Bool.and_eq_true, beq_iff_eq, decide_eq_true_eq] at h ⊢
  omega
theorem sb_jcP_jNA : ∀ k j, jNA k j = false → jcP k j = false := by
  intro k j h
  unfold jNA at h
  unfold jcP
  simp only [Bool.and_eq_false_iff, Bool.not_eq_false', decide_eq_false_iff_not, Bool.or_eq_false_iff, beq_eq_false_iff_ne, ne_eq, Bool.or_eq_true, Bool.and_eq_true, beq_iff_eq, decide_eq_true_eq] at h ⊢
  omega
theorem sb_jcH_jNA : ∀ k j, jNA k j = false → jcH k j = false := by
  intro k j h
  unfold jNA at h
  unfold jcH
  simp only [Bool.and_eq_false_iff, Bool.not_eq_false', decide_eq_false_iff_not, Bool.or_eq_false_iff, beq_eq_false_iff_ne, ne_eq, Bool.or_eq_true, Bool.and_eq_true, beq_iff_eq, decide_eq_true_eq] at h ⊢
  omega
theorem sb_jcO_jNA : ∀ k j, jNA k j = false → jcO k j = false := by
  intro k j h
  unfold jNA at h
  unfold jcO
  simp only [Bool.and_eq_false_iff, Bool.not_eq_false', decide_eq_false_iff_not, Bool.or_eq_false_iff, beq_eq_false_iff_ne, ne_eq, Bool.or_eq_true, Bool.and_eq_true, beq_iff_eq, decide_eq_true_eq] at h ⊢
  omega
theorem sb_jcB_jNA : ∀ k j, jNA k j = false → jcB k j = false := by
  intro k j h
  unfold jNA at h
  unfold jcB
  simp only [Bool.and_eq_false_iff, Bool.not_eq_false', decide_eq_false_iff_not, Bool.or_eq_false_iff, beq_eq_false_iff_ne, ne_eq, Bool.or_eq_true, Bool.and_eq_true, beq_iff_eq, decide_eq_true_eq] at h ⊢
  omega
theorem sb_jcA_jNA : ∀ k j, jNA k j = false → jcA k j = false := by
  intro k j h
  unfold jNA at h
  unfold jcA
  simp only [Bool.and_eq_false_iff, Bool.not_eq_false', decide_eq_false_iff_not, Bool.or_eq_false_iff, beq_eq_false_iff_ne, ne_eq, Bool.or_eq_true, Bool.and_eq_true, beq_iff_eq, decide_eq_true_eq] at h ⊢
  omega
theorem sb_jcD_jNA : ∀ k j, jNA k j = false → jcD k j = false := by
  intro k j h
  unfold jNA at h
  unfold jcD
  simp only [Bool.and_eq_false_iff, Bool.not_eq_false', decide_eq_false_iff_not, Bool.or_eq_false_iff, beq_eq_false_iff_ne, ne_eq, Bool.or_eq_true, Bool.and_eq_true, beq_iff_eq, decide_eq_true_eq] at h ⊢
  omega
theorem sb_jcW_jNA : ∀ k j, jNA k j = false → jcW k j = false := by
  intro k j h
  unfold jNA at h
  unfold jcW
  simp only [Bool.and_eq_false_iff, Bool.not_eq_false', decide_eq_false_iff_not, Bool.or_eq_false_iff, beq_eq_false_iff_ne, ne_eq, Bool.or_eq_true, Bool.and_eq_true, beq_iff_eq, decide_eq_true_eq] at h ⊢
  omega
theorem sb_jcS_jNA : ∀ k j, jNA k j = false → jcS k j = false := by
  intro k j h
  unfold jNA at h
  unfold jcS
  simp only [Bool.and_eq_false_iff, Bool.not_eq_false', decide_eq_false_iff_not, Bool.or_eq_false_iff, beq_eq_false_iff_ne, ne_eq, Bool.or_eq_true, Bool.and_eq_true, beq_iff_eq, decide_eq_true_eq] at h ⊢
  omega
theorem sb_jcT_jNA : ∀ k j, jNA k j = false → jcT k j = false := by
  intro k j h
  unfold jNA at h
  unfold jcT
  simp only [Bool.and_eq_false_iff, Bool.not_eq_false', decide_eq_false_iff_not, Bool.or_eq_false_iff, beq_eq_false_iff_ne, ne_eq, Bool.or_eq_true, Bool.and_eq_true, beq_iff_eq, decide_eq_true_eq] at h ⊢
  omega
theorem sb_jcHd_jNA : ∀ k j, jNA k j = false → jcHd k j = false := by
  intro k j h
  unfold jNA at h
  unfold jcHd
  simp only [Bool.and_eq_false_iff, Bool.not_eq_false', decide_eq_false_iff_not, Bool.or_eq_false_iff, beq_eq_false_iff_ne, ne_eq, Bool.or_eq_true, Bool.and_eq_true, beq_iff_eq, decide_eq_true_eq] at h ⊢
  omega
theorem sb_jcE_jNA : ∀ k j, jNA k j = false → jcE k j = false := by
  intro k j h
  unfold jNA at h
  unfold jcE
  simp only [Bool.and_eq_false_iff, Bool.not_eq_false', decide_eq_false_iff_not, Bool.or_eq_false_iff, beq_eq_false_iff_ne, ne_eq, Bool.or_eq_true, Bool.and_eq_true, beq_iff_eq, decide_eq_true_eq] at h ⊢
  omega
theorem sb_jcL_jNA : ∀ k j, jNA k j = false → jcL k j = false := by
  intro k j h
  unfold jNA at h
  unfold jcL
  simp only [Bool.and_eq_false_iff, Bool.not_eq_false', decide_eq_false_iff_not, Bool.or_eq_false_iff, beq_eq_false_iff_ne, ne_eq, Bool.or_eq_true, Bool.and_eq_true, beq_iff_eq, decide_eq_true_eq] at h ⊢
  omega
theorem sb_jcG_jNA : ∀ k j, jNA k j = false → jcG k j = false := by
  intro k j h
  unfold jNA at h
  unfold jcG
  simp only [Bool.and_eq_false_iff, Bool.not_eq_false', decide_eq_false_iff_not, Bool.or_eq_false_iff, beq_eq_false_iff_ne, ne_eq, Bool.or_eq_true, Bool.and_eq_true, beq_iff_eq, decide_eq_true_eq] at h ⊢
  omega
theorem sb_jcFd_jNA : ∀ k j, jNA k j = false → jcFd k j = false := by
  intro k j h
  unfold jNA at h
  unfold jcFd
  simp only [Bool.and_eq_false_iff, Bool.not_eq_false', decide_eq_false_iff_not, Bool.or_eq_false_iff, beq_eq_false_iff_ne, ne_eq, Bool.or_eq_true, Bool.and_eq_true, beq_iff_eq, decide_eq_true_eq] at h ⊢
  omega
theorem sb_jcTw_jNA : ∀ k j, jNA k j = false → jcTw k j = false := by
  intro k j h
  unfold jNA at h
  unfold jcTw
  simp only [Bool.and_eq_false_iff, Bool.not_eq_false', decide_eq_false_iff_not, Bool.or_eq_false_iff, beq_eq_false_iff_ne, ne_eq, Bool.or_eq_true, Bool.and_eq_true, beq_iff_eq, decide_eq_true_eq] at h ⊢
  omega
theorem sb_jcSh_jNA : ∀ k j, jNA k j = false → jcSh k j = false := by
  intro k j h
  unfold jNA at h
  unfold jcSh
  simp only [Bool.and_eq_false_iff, Bool.not_eq_false', decide_eq_false_iff_not, Bool.or_eq_false_iff, beq_eq_false_iff_ne, ne_eq, Bool.or_eq_true, Bool.and_eq_true, beq_iff_eq, decide_eq_true_eq] at h ⊢
  omega
theorem sb_jcMm_jNA : ∀ k j, jNA k j = false → jcMm k j = false := by
  intro k j h
  unfold jNA at h
  unfold jcMm
  simp only [Bool.and_eq_false_iff, Bool.not_eq_false', decide_eq_false_iff_not, Bool.or_eq_false_iff, beq_eq_false_iff_ne, ne_eq, Bool.or_eq_true, Bool.and_eq_true, beq_iff_eq, decide_eq_true_eq] at h ⊢
  omega
theorem sb_jcMf_jNA : ∀ k j, jNA k j = false → jcMf k j = false := by
  intro k j h
  unfold jNA at h
  unfold jcMf
  simp only [Bool.and_eq_false_iff, Bool.not_eq_false', decide_eq_false_iff_not, Bool.or_eq_false_iff, beq_eq_false_iff_ne, ne_eq, Bool.or_eq_true, Bool.and_eq_true, beq_iff_eq, decide_eq_true_eq] at h ⊢
  omega
theorem sb_jcMk_jNA : ∀ k j, jNA k j = false → jcMk k j = false := by
  intro k j h
  unfold jNA at h
  unfold jcMk
  simp only [Bool.and_eq_false_iff, Bool.not_eq_false', decide_eq_false_iff_not, Bool.or_eq_false_iff, beq_eq_false_iff_ne, ne_eq, Bool.or_eq_true, Bool.and_eq_true, beq_iff_eq, decide_eq_true_eq] at h ⊢
  omega
theorem sb_jcTp_jNA : ∀ k j, jNA k j = false → jcTp k j = false := by
  intro k j h
  unfold jNA at h
  unfold jcTp
  simp only [Bool.and_eq_false_iff, Bool.not_eq_false', decide_eq_false_iff_not, Bool.or_eq_false_iff, beq_eq_false_iff_ne, ne_eq, Bool.or_eq_true, Bool.and_eq_true, beq_iff_eq, decide_eq_true_eq] at h ⊢
  omega
theorem sb_jcI_jNA : ∀ k j, jNA k j = false → jcI k j = false := by
  intro k j h
  unfold jNA at h
  unfold jcI
  simp only [Bool.and_eq_false_iff, Bool.not_eq_false', decide_eq_false_iff_not, Bool.or_eq_false_iff, beq_eq_false_iff_ne, ne_eq, Bool.or_eq_true, Bool.and_eq_true, beq_iff_eq, decide_eq_true_eq] at h ⊢
  omega
theorem sb_jcU_jNA : ∀ k j, jNA k j = false → jcU k j = false := by
  intro k j h
  unfold jNA at h
  unfold jcU
  simp only [Bool.and_eq_false_iff, Bool.not_eq_false', decide_eq_false_iff_not, Bool.or_eq_false_iff, beq_eq_false_iff_ne, ne_eq, Bool.or_eq_true, Bool.and_eq_true, beq_iff_eq, decide_eq_true_eq] at h ⊢
  omega
theorem sb_jcKeep_jNA : ∀ k j, jNA k j = false → jcKeep k j = false := by
  intro k j h
  unfold jNA at h
  unfold jcKeep
  simp only [Bool.and_eq_false_iff, Bool.not_eq_false', decide_eq_false_iff_not, Bool.or_eq_false_iff, beq_eq_false_iff_ne, ne_eq, Bool.or_eq_true, Bool.and_eq_true, beq_iff_eq, decide_eq_true_eq] at h ⊢
  omega
