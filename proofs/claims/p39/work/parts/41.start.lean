/-! the law's start: the context that all contracts stand in -/
def nG : Cond := Jvm.Cond.and given_1 narrow_1
def tmJ (i : Nat) : Term := .string "AskedIn$Text" ([44, 46, 48, 81, 58, 71, 73, 79].getD i 0)
theorem arr_known {s : State} {args : Array Value} {ty : FieldType} (h : (Cond.arrayClass ty).before args s = true) : ∃ c, ArrOfT s c ty ∧ s.vm.findClass ("[" ++ ty.toString) = some c := by
  obtain ⟨c, k, comp, h1, h2, h3⟩ := Cond.arrayClass_spec h
  exact ⟨c, fun n z => ⟨(fun k h => by cases h), k, h2, comp, h3⟩, h1⟩
theorem over_known {s : State} {args : Array Value} {ty : FieldType} (h : (Cond.arrayOver (.array ty)).before args s = true) : ∃ c, ArrOfT s c (.array ty) ∧ s.vm.findClass ("[" ++ (FieldType.array ty).toString) = some c := by
  obtain ⟨comp, c, k, h1, h2, h3, h4⟩ := Cond.arrayOver_specA h
  exact ⟨c, fun n z => ⟨(fun k h => by cases h), k, h2, comp, h3⟩, h4⟩
section ST
variable {s : State} {b : Nat}
theorem st_K (hts : ∀ w ∈ lw_tbl, w.before #[Value.ref b] s = true) : ∃ D : va_G, va_K D vwCl [] s := by
  have htG : ∀ w ∈ tblG, w.before #[Value.ref b] s = true := fun w hw => hts w (List.mem_filter.mp hw).1
  obtain ⟨c0, i0, h0⟩ := u_known (C := RX0) (T := TX0) (N := 5) (n := 5) htG inX0 (htG _ newX0.1)
  obtain ⟨c1, i1, h1⟩ := u_known (C := RX1) (T := TX1) (N := 10) (n := 10) htG inX1 (htG _ newX1.1)
  obtain ⟨c2, i2, h2⟩ := u_known (C := RX2) (T := TX2) (N := 4) (n := 4) htG inX2 (htG _ newX2.1)
  obtain ⟨c3, i3, h3⟩ := u_known (C := RX3) (T := TX3) (N := 5) (n := 5) htG inX3 (htG _ newX3.1)
  obtain ⟨c4, i4, h4⟩ := u_known (C := RX4) (T := TX4) (N := 3) (n := 3) htG inX4 (htG _ newX4.1)
  obtain ⟨c5, i5, h5⟩ := u_known (C := RX5) (T := TX5) (N := 14) (n := 14) htG inX5 (htG _ newX5.1)
  obtain ⟨c6, i6, h6⟩ := u_known (C := RX6) (T := TX6) (N := 3) (n := 3) htG inX6 (htG _ newX6.1)
  obtain ⟨c7, i7, h7⟩ := u_known (C := RX7) (T := TX7) (N := 7) (n := 7) htG inX7 (htG _ newX7.1)
  obtain ⟨c8, i8, h8⟩ := u_known (C := RX9) (T := TX9) (N := 7) (n := 7) htG inX9 (htG _ newX9.1)
  obtain ⟨c9, i9, h9⟩ := u_known (C := RX10) (T := TX10) (N := 8) (n := 8) htG inX10 (htG _ newX10.1)
  obtain ⟨c10, i10, h10⟩ := u_known (C := RX11) (T := TX11) (N := 70) (n := 70) htG inX11 (htG _ newX11.1)
  refine ⟨(fun k => [c0, c1, c2, c3, c4, c5, c6, c7, c8, c9, c10].getD k 0, fun k => [i0, i1, i2, i3, i4, i5, i6, i7, i8, i9, i10].getD k (fun _ => 0)), fun k q hq => ?_, fun k q h => by simp at h⟩
  match k, hq with
  | 0, hq => cases hq; exact h0
  | 1, hq => cases hq; exact h1
  | 2, hq => cases hq; exact h2
  | 3, hq => cases hq; exact h3
  | 4, hq => cases hq; exact h4
  | 5, hq => cases hq; exact h5
  | 6, hq => cases hq; exact h6
  | 7, hq => cases hq; exact h7
  | 8, hq => cases hq; exact h8
  | 9, hq => cases hq; exact h9
  | 10, hq => cases hq; exact h10
  | k + 11, hq => simp [vwCl] at hq
theorem st_A (hts : ∀ w ∈ lw_tbl, w.before #[Value.ref b] s = true) : ∃ kA : Nat → ClassId, ∀ t, 1 ≤ t → t ≤ 6 → ArrOfT s (kA t) (aty t) ∧ s.vm.findClass ("[" ++ (aty t).toString) = some (kA t) := by
  obtain ⟨c1, h1⟩ := arr_known (hts _ arr_int)
  obtain ⟨c2, h2⟩ := arr_known (hts _ arr_long)
  obtain ⟨c3, h3⟩ := arr_known (hts _ arr_boolean)
  obtain ⟨c4, h4⟩ := arr_known (hts _ arr_byte)
  obtain ⟨c5, h5⟩ := over_known (hts _ over_int)
  obtain ⟨c6, h6⟩ := over_known (hts _ over_long)
  refine ⟨fun k => [0, c1, c2, c3, c4, c5, c6].getD k 0, fun t h1' h2' => ?_⟩
  match t, h1', h2' with
  | 1, _, _ => exact h1
  | 2, _, _ => exact h2
  | 3, _, _ => exact h3
  | 4, _, _ => exact h4
  | 5, _, _ => exact h5
  | 6, _, _ => exact h6
  | t + 7, _, h => exact absurd h (by omega)
theorem st_above (hts : ∀ w ∈ lw_tbl, w.before #[Value.ref b] s = true) (hs : ∀ w ∈ flatC nG, w.before #[Value.ref b] s = true) {A : Nat → Prop} (hA : ∀ a : Nat, a < s.heap.size → ¬ A a) : ∃ t : Nat, va_Z "AskedIn" "ABOVE" "[I" (.ref t) A s s.heap ∧ va_T .int t 7 (fun j => vI (aboveF j)) A s s.heap := by
  have hel : ∀ j : Nat, j < 7 → (Term.elem (.static "AskedIn" "ABOVE" "[I") (.int (Int32.ofNat j))).eval #[Value.ref b] s none [] s = some (vI (aboveF j)) := by
    intro j hj
    match j, hj with
    | 0, _ => exact va_eqt (z := (-1)) (hs (.eq (.elem (.static "AskedIn" "ABOVE" "[I") (.int 0)) (.int (-1))) (by decide +kernel))
    | 1, _ => exact va_eqt (z := (0)) (hs (.eq (.elem (.static "AskedIn" "ABOVE" "[I") (.int 1)) (.int (0))) (by decide +kernel))
    | 2, _ => exact va_eqt (z := (0)) (hs (.eq (.elem (.static "AskedIn" "ABOVE" "[I") (.int 2)) (.int (0))) (by decide +kernel))
    | 3, _ => exact va_eqt (z := (0)) (hs (.eq (.elem (.static "AskedIn" "ABOVE" "[I") (.int 3)) (.int (0))) (by decide +kernel))
    | 4, _ => exact va_eqt (z := (1)) (hs (.eq (.elem (.static "AskedIn" "ABOVE" "[I") (.int 4)) (.int (1))) (by decide +kernel))
    | 5, _ => exact va_eqt (z := (2)) (hs (.eq (.elem (.static "AskedIn" "ABOVE" "[I") (.int 5)) (.int (2))) (by decide +kernel))
    | 6, _ => exact va_eqt (z := (3)) (hs (.eq (.elem (.static "AskedIn" "ABOVE" "[I") (.int 6)) (.int (3))) (by decide +kernel))
    | j + 7, h => exact absurd h (by omega)
  obtain ⟨t, ht, hT⟩ := va_Tof (tm := (.static "AskedIn" "ABOVE" "[I")) (ty := .int) (N := 7) (f := fun j => vI (aboveF j)) (A := A) (by decide) (hs (.arrayOf (.static "AskedIn" "ABOVE" "[I") .int) (by decide +kernel)) (va_eqt (z := 7) (hs (.eq (.length (.static "AskedIn" "ABOVE" "[I")) (.int 7)) (by decide +kernel))) hel hA
  exact ⟨t, va_Zof (hts _ (tin_4 _ (List.mem_of_getElem? (i := 161) rfl))) (hts _ (tin_1 _ (List.mem_of_getElem? (i := 1) rfl))) ht hA, hT⟩
theorem st_bodies (hts : ∀ w ∈ lw_tbl, w.before #[Value.ref b] s = true) (hs : ∀ w ∈ flatC nG, w.before #[Value.ref b] s = true) {A : Nat → Prop} (hA : ∀ a : Nat, a < s.heap.size → ¬ A a) : ∃ t : Nat, va_Z "AskedIn$Acts" "BODIES" "[I" (.ref t) A s s.heap ∧ va_T .int t 21 (fun j => vI (bodiesF j)) A s s.heap := by
  have hel : ∀ j : Nat, j < 21 → (Term.elem (.static "AskedIn$Acts" "BODIES" "[I") (.int (Int32.ofNat j))).eval #[Value.ref b] s none [] s = some (vI (bodiesF j)) := by
    intro j hj
    match j, hj with
    | 0, _ => exact va_eqt (z := (10)) (hs (.eq (.elem (.static "AskedIn$Acts" "BODIES" "[I") (.int 0)) (.int (10))) (by decide +kernel))
    | 1, _ => exact va_eqt (z := (11)) (hs (.eq (.elem (.static "AskedIn$Acts" "BODIES" "[I") (.int 1)) (.int (11))) (by decide +kernel))
    | 2, _ => exact va_eqt (z := (12)) (hs (.eq (.elem (.static "AskedIn$Acts" "BODIES" "[I") (.int 2)) (.int (12))) (by decide +kernel))
    | 3, _ => exact va_eqt (z := (0)) (hs (.eq (.elem (.static "AskedIn$Acts" "BODIES" "[I") (.int 3)) (.int (0))) (by decide +kernel))
    | 4, _ => exact va_eqt (z := (20)) (hs (.eq (.elem (.static "AskedIn$Acts" "BODIES" "[I") (.int 4)) (.int (20))) (by decide +kernel))
    | 5, _ => exact va_eqt (z := (0)) (hs (.eq (.elem (.static "AskedIn$Acts" "BODIES" "[I") (.int 5)) (.int (0))) (by decide +kernel))
    | 6, _ => exact va_eqt (z := (30)) (hs (.eq (.elem (.static "AskedIn$Acts" "BODIES" "[I") (.int 6)) (.int (30))) (by decide +kernel))
    | 7, _ => exact va_eqt (z := (0)) (hs (.eq (.elem (.static "AskedIn$Acts" "BODIES" "[I") (.int 7)) (.int (0))) (by decide +kernel))
    | 8, _ => exact va_eqt (z := (0)) (hs (.eq (.elem (.static "AskedIn$Acts" "BODIES" "[I") (.int 8)) (.int (0))) (by decide +kernel))
    | 9, _ => exact va_eqt (z := (0)) (hs (.eq (.elem (.static "AskedIn$Acts" "BODIES" "[I") (.int 9)) (.int (0))) (by decide +kernel))
    | 10, _ => exact va_eqt (z := (0)) (hs (.eq (.elem (.static "AskedIn$Acts" "BODIES" "[I") (.int 10)) (.int (0))) (by decide +kernel))
    | 11, _ => exact va_eqt (z := (40)) (hs (.eq (.elem (.static "AskedIn$Acts" "BODIES" "[I") (.int 11)) (.int (40))) (by decide +kernel))
    | 12, _ => exact va_eqt (z := (50)) (hs (.eq (.elem (.static "AskedIn$Acts" "BODIES" "[I") (.int 12)) (.int (50))) (by decide +kernel))
    | 13, _ => exact va_eqt (z := (51)) (hs (.eq (.elem (.static "AskedIn$Acts" "BODIES" "[I") (.int 13)) (.int (51))) (by decide +kernel))
    | 14, _ => exact va_eqt (z := (0)) (hs (.eq (.elem (.static "AskedIn$Acts" "BODIES" "[I") (.int 14)) (.int (0))) (by decide +kernel))
    | 15, _ => exact va_eqt (z := (0)) (hs (.eq (.elem (.static "AskedIn$Acts" "BODIES" "[I") (.int 15)) (.int (0))) (by decide +kernel))
    | 16, _ => exact va_eqt (z := (0)) (hs (.eq (.elem (.static "AskedIn$Acts" "BODIES" "[I") (.int 16)) (.int (0))) (by decide +kernel))
    | 17, _ => exact va_eqt (z := (60)) (hs (.eq (.elem (.static "AskedIn$Acts" "BODIES" "[I") (.int 17)) (.int (60))) (by decide +kernel))
    | 18, _ => exact va_eqt (z := (71)) (hs (.eq (.elem (.static "AskedIn$Acts" "BODIES" "[I") (.int 18)) (.int (71))) (by decide +kernel))
    | 19, _ => exact va_eqt (z := (70)) (hs (.eq (.elem (.static "AskedIn$Acts" "BODIES" "[I") (.int 19)) (.int (70))) (by decide +kernel))
    | 20, _ => exact va_eqt (z := (0)) (hs (.eq (.elem (.static "AskedIn$Acts" "BODIES" "[I") (.int 20)) (.int (0))) (by decide +kernel))
    | j + 21, h => exact absurd h (by omega)
  obtain ⟨t, ht, hT⟩ := va_Tof (tm := (.static "AskedIn$Acts" "BODIES" "[I")) (ty := .int) (N := 21) (f := fun j => vI (bodiesF j)) (A := A) (by decide) (hs (.arrayOf (.static "AskedIn$Acts" "BODIES" "[I") .int) (by decide +kernel)) (va_eqt (z := 21) (hs (.eq (.length (.static "AskedIn$Acts" "BODIES" "[I")) (.int 21)) (by decide +kernel))) hel hA
  exact ⟨t, va_Zof (hts _ (tin_4 _ (List.mem_of_getElem? (i := 159) rfl))) (hts _ (tin_1 _ (List.mem_of_getElem? (i := 6) rfl))) ht hA, hT⟩
set_option maxRecDepth 20000 in
theorem st_str (hs : ∀ w ∈ flatC nG, w.before #[Value.ref b] s = true) {A : Nat → Prop} (hA : ∀ a : Nat, a < s.heap.size → ¬ A a) : ∃ adK adV : Nat → Nat, vk_S 8 lenJS bytJS adK adV A s s.heap ∧ ∀ i : Nat, i < 8 → (tmJ i).eval #[Value.ref b] s none [] s = some (.ref (adK i)) := by
  refine vk_Sof (tm := tmJ) (fun i hi => ?_) (fun i hi => ?_) (fun i hi => ?_) (fun i hi => ?_) (fun i hi => ?_) (fun i hi j hj => ?_) (fun i j hi hj hij => ?_) hA
  · match i, hi with
    | 0, _ => exact by decide
    | 1, _ => exact by decide
    | 2, _ => exact by decide
    | 3, _ => exact by decide
    | 4, _ => exact by decide
    | 5, _ => exact by decide
    | 6, _ => exact by decide
    | 7, _ => exact by decide
    | i + 8, h => exact absurd h (by omega)
  · match i, hi with
    | 0, _ => exact hs (.exactly (.string "AskedIn$Text" 44) "java/lang/String") (by decide +kernel)
    | 1, _ => exact hs (.exactly (.string "AskedIn$Text" 46) "java/lang/String") (by decide +kernel)
    | 2, _ => exact hs (.exactly (.string "AskedIn$Text" 48) "java/lang/String") (by decide +kernel)
    | 3, _ => exact hs (.exactly (.string "AskedIn$Text" 81) "java/lang/String") (by decide +kernel)
    | 4, _ => exact hs (.exactly (.string "AskedIn$Text" 58) "java/lang/String") (by decide +kernel)
    | 5, _ => exact hs (.exactly (.string "AskedIn$Text" 71) "java/lang/String") (by decide +kernel)
    | 6, _ => exact hs (.exactly (.string "AskedIn$Text" 73) "java/lang/String") (by decide +kernel)
    | 7, _ => exact hs (.exactly (.string "AskedIn$Text" 79) "java/lang/String") (by decide +kernel)
    | i + 8, h => exact absurd h (by omega)
  · match i, hi with
    | 0, _ => exact hs (.eq (.field (.string "AskedIn$Text" 44) "java/lang/String" "coder" "B") (.int 0)) (by decide +kernel)
    | 1, _ => exact hs (.eq (.field (.string "AskedIn$Text" 46) "java/lang/String" "coder" "B") (.int 0)) (by decide +kernel)
    | 2, _ => exact hs (.eq (.field (.string "AskedIn$Text" 48) "java/lang/String" "coder" "B") (.int 0)) (by decide +kernel)
    | 3, _ => exact hs (.eq (.field (.string "AskedIn$Text" 81) "java/lang/String" "coder" "B") (.int 0)) (by decide +kernel)
    | 4, _ => exact hs (.eq (.field (.string "AskedIn$Text" 58) "java/lang/String" "coder" "B") (.int 0)) (by decide +kernel)
    | 5, _ => exact hs (.eq (.field (.string "AskedIn$Text" 71) "java/lang/String" "coder" "B") (.int 0)) (by decide +kernel)
    | 6, _ => exact hs (.eq (.field (.string "AskedIn$Text" 73) "java/lang/String" "coder" "B") (.int 0)) (by decide +kernel)
    | 7, _ => exact hs (.eq (.field (.string "AskedIn$Text" 79) "java/lang/String" "coder" "B") (.int 0)) (by decide +kernel)
    | i + 8, h => exact absurd h (by omega)
  · match i, hi with
    | 0, _ => exact hs (.arrayOf (.field (.string "AskedIn$Text" 44) "java/lang/String" "value" "[B") .byte) (by decide +kernel)
    | 1, _ => exact hs (.arrayOf (.field (.string "AskedIn$Text" 46) "java/lang/String" "value" "[B") .byte) (by decide +kernel)
    | 2, _ => exact hs (.arrayOf (.field (.string "AskedIn$Text" 48) "java/lang/String" "value" "[B") .byte) (by decide +kernel)
    | 3, _ => exact hs (.arrayOf (.field (.string "AskedIn$Text" 81) "java/lang/String" "value" "[B") .byte) (by decide +kernel)
    | 4, _ => exact hs (.arrayOf (.field (.string "AskedIn$Text" 58) "java/lang/String" "value" "[B") .byte) (by decide +kernel)
    | 5, _ => exact hs (.arrayOf (.field (.string "AskedIn$Text" 71) "java/lang/String" "value" "[B") .byte) (by decide +kernel)
    | 6, _ => exact hs (.arrayOf (.field (.string "AskedIn$Text" 73) "java/lang/String" "value" "[B") .byte) (by decide +kernel)
    | 7, _ => exact hs (.arrayOf (.field (.string "AskedIn$Text" 79) "java/lang/String" "value" "[B") .byte) (by decide +kernel)
    | i + 8, h => exact absurd h (by omega)
  · match i, hi with
    | 0, _ => exact hs (.eq (.length (.field (.string "AskedIn$Text" 44) "java/lang/String" "value" "[B")) (.int 5)) (by decide +kernel)
    | 1, _ => exact hs (.eq (.length (.field (.string "AskedIn$Text" 46) "java/lang/String" "value" "[B")) (.int 4)) (by decide +kernel)
    | 2, _ => exact hs (.eq (.length (.field (.string "AskedIn$Text" 48) "java/lang/String" "value" "[B")) (.int 5)) (by decide +kernel)
    | 3, _ => exact hs (.eq (.length (.field (.string "AskedIn$Text" 81) "java/lang/String" "value" "[B")) (.int 10)) (by decide +kernel)
    | 4, _ => exact hs (.eq (.length (.field (.string "AskedIn$Text" 58) "java/lang/String" "value" "[B")) (.int 1)) (by decide +kernel)
    | 5, _ => exact hs (.eq (.length (.field (.string "AskedIn$Text" 71) "java/lang/String" "value" "[B")) (.int 1)) (by decide +kernel)
    | 6, _ => exact hs (.eq (.length (.field (.string "AskedIn$Text" 73) "java/lang/String" "value" "[B")) (.int 6)) (by decide +kernel)
    | 7, _ => exact hs (.eq (.length (.field (.string "AskedIn$Text" 79) "java/lang/String" "value" "[B")) (.int 3)) (by decide +kernel)
    | i + 8, h => exact absurd h (by omega)
  · match i, hi, j, hj with
    | 0, _, 0, _ => exact hs (.eq (.elem (.field (.string "AskedIn$Text" 44) "java/lang/String" "value" "[B") (.int 0)) (.int 111)) (by decide +kernel)
    | 0, _, 1, _ => exact hs (.eq (.elem (.field (.string "AskedIn$Text" 44) "java/lang/String" "value" "[B") (.int 1)) (.int 117)) (by decide +kernel)
    | 0, _, 2, _ => exact hs (.eq (.elem (.field (.string "AskedIn$Text" 44) "java/lang/String" "value" "[B") (.int 2)) (.int 110)) (by decide +kernel)
    | 0, _, 3, _ => exact hs (.eq (.elem (.field (.string "AskedIn$Text" 44) "java/lang/String" "value" "[B") (.int 3)) (.int 116)) (by decide +kernel)
    | 0, _, 4, _ => exact hs (.eq (.elem (.field (.string "AskedIn$Text" 44) "java/lang/String" "value" "[B") (.int 4)) (.int 32)) (by decide +kernel)
    | 0, _, j + 5, h => exact absurd (show j + 5 < 5 from h) (by omega)
    | 1, _, 0, _ => exact hs (.eq (.elem (.field (.string "AskedIn$Text" 46) "java/lang/String" "value" "[B") (.int 0)) (.int 97)) (by decide +kernel)
    | 1, _, 1, _ => exact hs (.eq (.elem (.field (.string "AskedIn$Text" 46) "java/lang/String" "value" "[B") (.int 1)) (.int 108)) (by decide +kernel)
    | 1, _, 2, _ => exact hs (.eq (.elem (.field (.string "AskedIn$Text" 46) "java/lang/String" "value" "[B") (.int 2)) (.int 107)) (by decide +kernel)
    | 1, _, 3, _ => exact hs (.eq (.elem (.field (.string "AskedIn$Text" 46) "java/lang/String" "value" "[B") (.int 3)) (.int 32)) (by decide +kernel)
    | 1, _, j + 4, h => exact absurd (show j + 4 < 4 from h) (by omega)
    | 2, _, 0, _ => exact hs (.eq (.elem (.field (.string "AskedIn$Text" 48) "java/lang/String" "value" "[B") (.int 0)) (.int 100)) (by decide +kernel)
    | 2, _, 1, _ => exact hs (.eq (.elem (.field (.string "AskedIn$Text" 48) "java/lang/String" "value" "[B") (.int 1)) (.int 97)) (by decide +kernel)
    | 2, _, 2, _ => exact hs (.eq (.elem (.field (.string "AskedIn$Text" 48) "java/lang/String" "value" "[B") (.int 2)) (.int 119)) (by decide +kernel)
    | 2, _, 3, _ => exact hs (.eq (.elem (.field (.string "AskedIn$Text" 48) "java/lang/String" "value" "[B") (.int 3)) (.int 110)) (by decide +kernel)
    | 2, _, 4, _ => exact hs (.eq (.elem (.field (.string "AskedIn$Text" 48) "java/lang/String" "value" "[B") (.int 4)) (.int 32)) (by decide +kernel)
    | 2, _, j + 5, h => exact absurd (show j + 5 < 5 from h) (by omega)
    | 3, _, 0, _ => exact hs (.eq (.elem (.field (.string "AskedIn$Text" 81) "java/lang/String" "value" "[B") (.int 0)) (.int 48)) (by decide +kernel)
    | 3, _, 1, _ => exact hs (.eq (.elem (.field (.string "AskedIn$Text" 81) "java/lang/String" "value" "[B") (.int 1)) (.int 49)) (by decide +kernel)
    | 3, _, 2, _ => exact hs (.eq (.elem (.field (.string "AskedIn$Text" 81) "java/lang/String" "value" "[B") (.int 2)) (.int 50)) (by decide +kernel)
    | 3, _, 3, _ => exact hs (.eq (.elem (.field (.string "AskedIn$Text" 81) "java/lang/String" "value" "[B") (.int 3)) (.int 51)) (by decide +kernel)
    | 3, _, 4, _ => exact hs (.eq (.elem (.field (.string "AskedIn$Text" 81) "java/lang/String" "value" "[B") (.int 4)) (.int 52)) (by decide +kernel)
    | 3, _, 5, _ => exact hs (.eq (.elem (.field (.string "AskedIn$Text" 81) "java/lang/String" "value" "[B") (.int 5)) (.int 53)) (by decide +kernel)
    | 3, _, 6, _ => exact hs (.eq (.elem (.field (.string "AskedIn$Text" 81) "java/lang/String" "value" "[B") (.int 6)) (.int 54)) (by decide +kernel)
    | 3, _, 7, _ => exact hs (.eq (.elem (.field (.string "AskedIn$Text" 81) "java/lang/String" "value" "[B") (.int 7)) (.int 55)) (by decide +kernel)
    | 3, _, 8, _ => exact hs (.eq (.elem (.field (.string "AskedIn$Text" 81) "java/lang/String" "value" "[B") (.int 8)) (.int 56)) (by decide +kernel)
    | 3, _, 9, _ => exact hs (.eq (.elem (.field (.string "AskedIn$Text" 81) "java/lang/String" "value" "[B") (.int 9)) (.int 57)) (by decide +kernel)
    | 3, _, j + 10, h => exact absurd (show j + 10 < 10 from h) (by omega)
    | 4, _, 0, _ => exact hs (.eq (.elem (.field (.string "AskedIn$Text" 58) "java/lang/String" "value" "[B") (.int 0)) (.int 32)) (by decide +kernel)
    | 4, _, j + 1, h => exact absurd (show j + 1 < 1 from h) (by omega)
    | 5, _, 0, _ => exact hs (.eq (.elem (.field (.string "AskedIn$Text" 71) "java/lang/String" "value" "[B") (.int 0)) (.int 41)) (by decide +kernel)
    | 5, _, j + 1, h => exact absurd (show j + 1 < 1 from h) (by omega)
    | 6, _, 0, _ => exact hs (.eq (.elem (.field (.string "AskedIn$Text" 73) "java/lang/String" "value" "[B") (.int 0)) (.int 102)) (by decide +kernel)
    | 6, _, 1, _ => exact hs (.eq (.elem (.field (.string "AskedIn$Text" 73) "java/lang/String" "value" "[B") (.int 1)) (.int 104)) (by decide +kernel)
    | 6, _, 2, _ => exact hs (.eq (.elem (.field (.string "AskedIn$Text" 73) "java/lang/String" "value" "[B") (.int 2)) (.int 107)) (by decide +kernel)
    | 6, _, 3, _ => exact hs (.eq (.elem (.field (.string "AskedIn$Text" 73) "java/lang/String" "value" "[B") (.int 3)) (.int 118)) (by decide +kernel)
    | 6, _, 4, _ => exact hs (.eq (.elem (.field (.string "AskedIn$Text" 73) "java/lang/String" "value" "[B") (.int 4)) (.int 103)) (by decide +kernel)
    | 6, _, 5, _ => exact hs (.eq (.elem (.field (.string "AskedIn$Text" 73) "java/lang/String" "value" "[B") (.int 5)) (.int 99)) (by decide +kernel)
    | 6, _, j + 6, h => exact absurd (show j + 6 < 6 from h) (by omega)
    | 7, _, 0, _ => exact hs (.eq (.elem (.field (.string "AskedIn$Text" 79) "java/lang/String" "value" "[B") (.int 0)) (.int 60)) (by decide +kernel)
    | 7, _, 1, _ => exact hs (.eq (.elem (.field (.string "AskedIn$Text" 79) "java/lang/String" "value" "[B") (.int 1)) (.int 61)) (by decide +kernel)
    | 7, _, 2, _ => exact hs (.eq (.elem (.field (.string "AskedIn$Text" 79) "java/lang/String" "value" "[B") (.int 2)) (.int 62)) (by decide +kernel)
    | 7, _, j + 3, h => exact absurd (show j + 3 < 3 from h) (by omega)
    | i + 8, h, _, _ => exact absurd h (by omega)
  · have key : ∀ i j : Nat, i < j → j < 8 → (Cond.not (Cond.eq (tmJ i) (tmJ j))).before #[Value.ref b] s = true := by
      intro i j hij hj
      match i, j, hij, hj with
      | 0, 1, _, _ => exact hs (.not (.eq (.string "AskedIn$Text" 44) (.string "AskedIn$Text" 46))) (by decide +kernel)
      | 0, 2, _, _ => exact hs (.not (.eq (.string "AskedIn$Text" 44) (.string "AskedIn$Text" 48))) (by decide +kernel)
      | 1, 2, _, _ => exact hs (.not (.eq (.string "AskedIn$Text" 46) (.string "AskedIn$Text" 48))) (by decide +kernel)
      | 0, 3, _, _ => exact hs (.not (.eq (.string "AskedIn$Text" 44) (.string "AskedIn$Text" 81))) (by decide +kernel)
      | 1, 3, _, _ => exact hs (.not (.eq (.string "AskedIn$Text" 46) (.string "AskedIn$Text" 81))) (by decide +kernel)
      | 2, 3, _, _ => exact hs (.not (.eq (.string "AskedIn$Text" 48) (.string "AskedIn$Text" 81))) (by decide +kernel)
      | 0, 4, _, _ => exact hs (.not (.eq (.string "AskedIn$Text" 44) (.string "AskedIn$Text" 58))) (by decide +kernel)
      | 1, 4, _, _ => exact hs (.not (.eq (.string "AskedIn$Text" 46) (.string "AskedIn$Text" 58))) (by decide +kernel)
      | 2, 4, _, _ => exact hs (.not (.eq (.string "AskedIn$Text" 48) (.string "AskedIn$Text" 58))) (by decide +kernel)
      | 3, 4, _, _ => exact hs (.not (.eq (.string "AskedIn$Text" 81) (.string "AskedIn$Text" 58))) (by decide +kernel)
      | 0, 5, _, _ => exact hs (.not (.eq (.string "AskedIn$Text" 44) (.string "AskedIn$Text" 71))) (by decide +kernel)
      | 1, 5, _, _ => exact hs (.not (.eq (.string "AskedIn$Text" 46) (.string "AskedIn$Text" 71))) (by decide +kernel)
      | 2, 5, _, _ => exact hs (.not (.eq (.string "AskedIn$Text" 48) (.string "AskedIn$Text" 71))) (by decide +kernel)
      | 3, 5, _, _ => exact hs (.not (.eq (.string "AskedIn$Text" 81) (.string "AskedIn$Text" 71))) (by decide +kernel)
      | 4, 5, _, _ => exact hs (.not (.eq (.string "AskedIn$Text" 58) (.string "AskedIn$Text" 71))) (by decide +kernel)
      | 0, 6, _, _ => exact hs (.not (.eq (.string "AskedIn$Text" 44) (.string "AskedIn$Text" 73))) (by decide +kernel)
      | 1, 6, _, _ => exact hs (.not (.eq (.string "AskedIn$Text" 46) (.string "AskedIn$Text" 73))) (by decide +kernel)
      | 2, 6, _, _ => exact hs (.not (.eq (.string "AskedIn$Text" 48) (.string "AskedIn$Text" 73))) (by decide +kernel)
      | 3, 6, _, _ => exact hs (.not (.eq (.string "AskedIn$Text" 81) (.string "AskedIn$Text" 73))) (by decide +kernel)
      | 4, 6, _, _ => exact hs (.not (.eq (.string "AskedIn$Text" 58) (.string "AskedIn$Text" 73))) (by decide +kernel)
      | 5, 6, _, _ => exact hs (.not (.eq (.string "AskedIn$Text" 71) (.string "AskedIn$Text" 73))) (by decide +kernel)
      | 0, 7, _, _ => exact hs (.not (.eq (.string "AskedIn$Text" 44) (.string "AskedIn$Text" 79))) (by decide +kernel)
      | 1, 7, _, _ => exact hs (.not (.eq (.string "AskedIn$Text" 46) (.string "AskedIn$Text" 79))) (by decide +kernel)
      | 2, 7, _, _ => exact hs (.not (.eq (.string "AskedIn$Text" 48) (.string "AskedIn$Text" 79))) (by decide +kernel)
      | 3, 7, _, _ => exact hs (.not (.eq (.string "AskedIn$Text" 81) (.string "AskedIn$Text" 79))) (by decide +kernel)
      | 4, 7, _, _ => exact hs (.not (.eq (.string "AskedIn$Text" 58) (.string "AskedIn$Text" 79))) (by decide +kernel)
      | 5, 7, _, _ => exact hs (.not (.eq (.string "AskedIn$Text" 71) (.string "AskedIn$Text" 79))) (by decide +kernel)
      | 6, 7, _, _ => exact hs (.not (.eq (.string "AskedIn$Text" 73) (.string "AskedIn$Text" 79))) (by decide +kernel)
      | i, j + 8, _, h => exact absurd h (by omega)
      | i + 0, 0, h, _ => exact absurd h (by omega)
      | i + 1, 1, h, _ => exact absurd h (by omega)
      | i + 2, 2, h, _ => exact absurd h (by omega)
      | i + 3, 3, h, _ => exact absurd h (by omega)
      | i + 4, 4, h, _ => exact absurd h (by omega)
      | i + 5, 5, h, _ => exact absurd h (by omega)
      | i + 6, 6, h, _ => exact absurd h (by omega)
      | i + 7, 7, h, _ => exact absurd h (by omega)
    rcases Nat.lt_or_gt_of_ne hij with h | h
    · exact Or.inl (key i j h hj)
    · exact Or.inr (key j i h hi)
theorem st_ref (hts : ∀ w ∈ lw_tbl, w.before #[Value.ref b] s = true) {adK : Nat → Nat} (he : ∀ i : Nat, i < 8 → (tmJ i).eval #[Value.ref b] s none [] s = some (.ref (adK i))) : ∀ i q, strL[i]? = some q → vk_R "AskedIn$Text" q.1 q.2 (adK i) s := by
  intro i q hq
  match i, hq with
  | 0, hq => cases hq; exact vk_R.of (hts _ (tin_2 _ (List.mem_of_getElem? (i := 232) rfl))) (he 0 (by decide))
  | 1, hq => cases hq; exact vk_R.of (hts _ (tin_2 _ (List.mem_of_getElem? (i := 233) rfl))) (he 1 (by decide))
  | 2, hq => cases hq; exact vk_R.of (hts _ (tin_2 _ (List.mem_of_getElem? (i := 234) rfl))) (he 2 (by decide))
  | 3, hq => cases hq; exact vk_R.of (hts _ (tin_3 _ (List.mem_of_getElem? (i := 51) rfl))) (he 3 (by decide))
  | 4, hq => cases hq; exact vk_R.of (hts _ (tin_3 _ (List.mem_of_getElem? (i := 113) rfl))) (he 4 (by decide))
  | 5, hq => cases hq; exact vk_R.of (hts _ (tin_3 _ (List.mem_of_getElem? (i := 126) rfl))) (he 5 (by decide))
  | 6, hq => cases hq; exact vk_R.of (hts _ (tin_3 _ (List.mem_of_getElem? (i := 127) rfl))) (he 6 (by decide))
  | 7, hq => cases hq; exact vk_R.of (hts _ (tin_3 _ (List.mem_of_getElem? (i := 128) rfl))) (he 7 (by decide))
  | i + 8, hq => simp [strL] at hq
end ST
theorem start_KS {s : State} {b L : Nat} {xs : Nat → Int32} (l : Launch) (hts : ∀ w ∈ lw_tbl, w.before #[Value.ref b] s = true) (hX : va_X b L xs s s.heap) (hbl : b < s.heap.size) (hgv : nG.before #[Value.ref b] s = true) : ∃ Γ : KT, kL Γ = l ∧ kH Γ = s.heap ∧ kS Γ 2 = b ∧ kS Γ 3 = L ∧ KS Γ s := by
  have hs := flat_of_before _ hgv
  have hA : ∀ a : Nat, a < s.heap.size → ¬ (fun q : Nat => s.heap.size ≤ q) a := fun a h => Nat.not_le.mpr h
  obtain ⟨D, hK⟩ := st_K hts
  obtain ⟨kA', hA'⟩ := st_A hts
  obtain ⟨tA, z1, z2⟩ := st_above hts hs hA
  obtain ⟨tB, z3, z4⟩ := st_bodies hts hs hA
  obtain ⟨adK', adV', z5, z6⟩ := st_str hs hA
  have hon : ∀ w ∈ nestL, w.onTables = true := List.all_eq_true.mp (rfl : nestL.all (fun w => w.onTables) = true)
  refine ⟨(l, D, kA', s.heap, (fun k => if k = 0 then tA else if k = 1 then tB else if k = 2 then b else if k = 3 then L else if k < 20 then adK' (k - 10) else adV' (k - 20)), xs), rfl, rfl, rfl, rfl, hK, hA', fun w hw => va_Nw.of (hon w hw) (hts _ (nestL_in w hw)), z1, z2, z3, z4, va_Zof (hts _ (tin_3 _ (List.mem_of_getElem? (i := 8) rfl))) (hts _ (tin_1 _ (List.mem_of_getElem? (i := 13) rfl))) (va_eqt (hs (.eq (.static "java/lang/String" "COMPACT_STRINGS" "Z") (.int 1)) (by decide +kernel))) hA, va_Zqof (hts _ (tin_3 _ (List.mem_of_getElem? (i := 24) rfl))) (hts _ (tin_1 _ (List.mem_of_getElem? (i := 15) rfl))) (hs (.isRef (.static "jdk/internal/util/Preconditions" "SIOOBE_FORMATTER" "Ljava/util/function/BiFunction;")) (by decide +kernel)) hA, ?_, ?_, ?_, ?_⟩
  · refine ⟨fun i hi => ?_, fun i j hi hj e => ?_⟩
    · have e1 : (if 10 + i = 0 then tA else if 10 + i = 1 then tB else if 10 + i = 2 then b else if 10 + i = 3 then L else if 10 + i < 20 then adK' (10 + i - 10) else adV' (10 + i - 20)) = adK' i := by
        rw [if_neg (by omega), if_neg (by omega), if_neg (by omega), if_neg (by omega), if_pos (by omega), show 10 + i - 10 = i by omega]
      have e2 : (if 20 + i = 0 then tA else if 20 + i = 1 then tB else if 20 + i = 2 then b else if 20 + i = 3 then L else if 20 + i < 20 then adK' (20 + i - 10) else adV' (20 + i - 20)) = adV' i := by
        rw [if_neg (by omega), if_neg (by omega), if_neg (by omega), if_neg (by omega), if_neg (by omega), show 20 + i - 20 = i by omega]
      have h := z5.1 i hi
      rw [← e1, ← e2] at h
      exact h
    · have e1 : ∀ i, i < 8 → (if 10 + i = 0 then tA else if 10 + i = 1 then tB else if 10 + i = 2 then b else if 10 + i = 3 then L else if 10 + i < 20 then adK' (10 + i - 10) else adV' (10 + i - 20)) = adK' i := fun i hi => by
        rw [if_neg (by omega), if_neg (by omega), if_neg (by omega), if_neg (by omega), if_pos (by omega), show 10 + i - 10 = i by omega]
      exact z5.2 i j hi hj (by rw [← e1 i hi, ← e1 j hj]; exact e)
  · intro i q hq
    have hi : i < 8 := by
      have := (List.getElem?_eq_some_iff.mp hq).1
      simpa [strL] using this
    have e1 : (if 10 + i = 0 then tA else if 10 + i = 1 then tB else if 10 + i = 2 then b else if 10 + i = 3 then L else if 10 + i < 20 then adK' (10 + i - 10) else adV' (10 + i - 20)) = adK' i := by
      rw [if_neg (by omega), if_neg (by omega), if_neg (by omega), if_neg (by omega), if_pos (by omega), show 10 + i - 10 = i by omega]
    have h := st_ref hts z6 i q hq
    rw [← e1] at h
    exact h
  · intro t ht
    rcases ht with rfl | rfl
    · exact hts _ over_int
    · exact hts _ over_long
  · obtain ⟨scr, hcb, hof, hkn, hsz, hval⟩ := hX
    exact ⟨scr, hcb, hof, hkn, by rw [hsz]; exact Nat.le_refl _, by rw [hsz]; rfl, hval, hA b hbl⟩
