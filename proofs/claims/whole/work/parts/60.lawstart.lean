/-! The law: what the tables and the start give -/
theorem lin_1 {w : Cond} (i : Nat) (h : tables_1_1[i]? = some w) : w ∈ lw_tbl := List.mem_append_right _ (List.mem_append_left _ (List.mem_of_getElem? h))
theorem lin_2 {w : Cond} (i : Nat) (h : tables_1_2[i]? = some w) : w ∈ lw_tbl := List.mem_append_right _ (List.mem_append_right _ (List.mem_append_left _ (List.mem_of_getElem? h)))
theorem lin_3 {w : Cond} (i : Nat) (h : tables_1_3[i]? = some w) : w ∈ lw_tbl := List.mem_append_right _ (List.mem_append_right _ (List.mem_append_right _ (List.mem_append_left _ (List.mem_of_getElem? h))))
theorem lin_4 {w : Cond} (i : Nat) (h : tables_1_4[i]? = some w) : w ∈ lw_tbl := List.mem_append_right _ (List.mem_append_right _ (List.mem_append_right _ (List.mem_append_right _ (List.mem_append_left _ (List.mem_of_getElem? h)))))
theorem lin_5 {w : Cond} (i : Nat) (h : tables_1_5[i]? = some w) : w ∈ lw_tbl := List.mem_append_right _ (List.mem_append_right _ (List.mem_append_right _ (List.mem_append_right _ (List.mem_append_right _ ((List.mem_of_getElem? h))))))
theorem arr_prim {args : Array Value} {s : State} {ty : FieldType} (h : (Cond.arrayClass ty).before args s = true) : ∃ cA : ClassId, ArrOfT s cA ty ∧ s.vm.findClass ("[" ++ ty.toString) = some cA := by
  obtain ⟨c, k, comp, h1, h2, h3⟩ := Cond.arrayClass_spec h
  exact ⟨c, fun n z => ⟨fun k h => (by cases h), k, h2, comp, h3⟩, h1⟩
theorem arr_obj {args : Array Value} {s : State} {C : String} (h : (Cond.arrayOver (.object C)).before args s = true) : ∃ cA : ClassId, ArrOfT s cA (.object C) ∧ va_RA s cA (.object C) := by
  obtain ⟨comp, c, k, h1, h2, h3, h4, h5⟩ := Cond.arrayOver_spec h
  exact ⟨c, fun n z => ⟨fun k h => (by cases h), k, h3, comp, h4⟩, k, comp, h3, h4, h1, h5⟩
theorem st_cls {args : Array Value} {s : State} (hts : ∀ w ∈ xtbl, w.before args s = true) : ∀ k : Nat, ∃ q0 : ClassId × (Nat → Nat), ∀ q : vw_C, vwCl[k]? = some q → u_Kn s q.1 q.2.1 q.2.2 q0.1 q0.2 := by
  intro k
  by_cases hk : k < 13
  · rcases (show k = 0 ∨ k = 1 ∨ k = 2 ∨ k = 3 ∨ k = 4 ∨ k = 5 ∨ k = 6 ∨ k = 7 ∨ k = 8 ∨ k = 9 ∨ k = 10 ∨ k = 11 ∨ k = 12 by omega) with rfl | rfl | rfl | rfl | rfl | rfl | rfl | rfl | rfl | rfl | rfl | rfl | rfl
    · obtain ⟨a, b, h⟩ := u_known (C := RX0) (T := TX0) (N := 2) (n := 2) hts hin_X0 (hts _ kb_X0)
      exact ⟨(a, b), fun q hq => by cases hq; exact h⟩
    · obtain ⟨a, b, h⟩ := u_known (C := RX1) (T := TX1) (N := 3) (n := 3) hts hin_X1 (hts _ kb_X1)
      exact ⟨(a, b), fun q hq => by cases hq; exact h⟩
    · obtain ⟨a, b, h⟩ := u_known (C := RX2) (T := TX2) (N := 4) (n := 4) hts hin_X2 (hts _ kb_X2)
      exact ⟨(a, b), fun q hq => by cases hq; exact h⟩
    · obtain ⟨a, b, h⟩ := u_known (C := RX3) (T := TX3) (N := 8) (n := 8) hts hin_X3 (hts _ kb_X3)
      exact ⟨(a, b), fun q hq => by cases hq; exact h⟩
    · obtain ⟨a, b, h⟩ := u_known (C := RX4) (T := TX4) (N := 3) (n := 3) hts hin_X4 (hts _ kb_X4)
      exact ⟨(a, b), fun q hq => by cases hq; exact h⟩
    · obtain ⟨a, b, h⟩ := u_known (C := RX5) (T := TX5) (N := 8) (n := 8) hts hin_X5 (hts _ kb_X5)
      exact ⟨(a, b), fun q hq => by cases hq; exact h⟩
    · obtain ⟨a, b, h⟩ := u_known (C := RX6) (T := TX6) (N := 10) (n := 10) hts hin_X6 (hts _ kb_X6)
      exact ⟨(a, b), fun q hq => by cases hq; exact h⟩
    · obtain ⟨a, b, h⟩ := u_known (C := RX7) (T := TX7) (N := 1) (n := 1) hts hin_X7 (hts _ kb_X7)
      exact ⟨(a, b), fun q hq => by cases hq; exact h⟩
    · obtain ⟨a, b, h⟩ := u_known (C := RX8) (T := TX8) (N := 6) (n := 6) hts hin_X8 (hts _ kb_X8)
      exact ⟨(a, b), fun q hq => by cases hq; exact h⟩
    · obtain ⟨a, b, h⟩ := u_known (C := RX9) (T := TX9) (N := 5) (n := 5) hts hin_X9 (hts _ kb_X9)
      exact ⟨(a, b), fun q hq => by cases hq; exact h⟩
    · obtain ⟨a, b, h⟩ := u_known (C := RX10) (T := TX10) (N := 3) (n := 3) hts hin_X10 (hts _ kb_X10)
      exact ⟨(a, b), fun q hq => by cases hq; exact h⟩
    · obtain ⟨a, b, h⟩ := u_known (C := RX11) (T := TX11) (N := 6) (n := 6) hts hin_X11 (hts _ kb_X11)
      exact ⟨(a, b), fun q hq => by cases hq; exact h⟩
    · obtain ⟨a, b, h⟩ := u_known (C := RX12) (T := TX12) (N := 24) (n := 24) hts hin_X12 (hts _ kb_X12)
      exact ⟨(a, b), fun q hq => by cases hq; exact h⟩
  · obtain ⟨a, b, h⟩ := u_known (C := RX0) (T := TX0) (N := 2) (n := 2) hts hin_X0 (hts _ kb_X0)
    exact ⟨(a, b), fun q hq => absurd (List.getElem?_eq_some_iff.mp hq).1 (by show ¬ k < 13; exact hk)⟩
def xTyL : List FieldType := [.int, .long, .boolean, .object RX0, .object RX1, .object RX6, .object RX9, .object RX10]
theorem st_arr {args : Array Value} {s : State} (hts : ∀ w ∈ lw_tbl, w.before args s = true) : ∀ k : Nat, ∃ cA : ClassId, ∀ ty : FieldType, xTyL[k]? = some ty → ArrOfT s cA ty ∧ va_RA s cA ty := by
  intro k
  by_cases hk : k < 8
  · rcases (show k = 0 ∨ k = 1 ∨ k = 2 ∨ k = 3 ∨ k = 4 ∨ k = 5 ∨ k = 6 ∨ k = 7 by omega) with rfl | rfl | rfl | rfl | rfl | rfl | rfl | rfl
    · obtain ⟨a, h1, h2⟩ := arr_prim (hts _ (xtbl_sub ka_int))
      exact ⟨a, fun ty hq => by cases hq; exact ⟨h1, h2⟩⟩
    · obtain ⟨a, h1, h2⟩ := arr_prim (hts _ (xtbl_sub ka_long))
      exact ⟨a, fun ty hq => by cases hq; exact ⟨h1, h2⟩⟩
    · obtain ⟨a, h1, h2⟩ := arr_prim (hts _ (xtbl_sub ka_boolean))
      exact ⟨a, fun ty hq => by cases hq; exact ⟨h1, h2⟩⟩
    · obtain ⟨a, h1, h2⟩ := arr_obj (C := RX0) (hts _ (lin_1 94 rfl))
      exact ⟨a, fun ty hq => by cases hq; exact ⟨h1, h2⟩⟩
    · obtain ⟨a, h1, h2⟩ := arr_obj (C := RX1) (hts _ (lin_1 101 rfl))
      exact ⟨a, fun ty hq => by cases hq; exact ⟨h1, h2⟩⟩
    · obtain ⟨a, h1, h2⟩ := arr_obj (C := RX6) (hts _ (lin_1 218 rfl))
      exact ⟨a, fun ty hq => by cases hq; exact ⟨h1, h2⟩⟩
    · obtain ⟨a, h1, h2⟩ := arr_obj (C := RX9) (hts _ (lin_2 131 rfl))
      exact ⟨a, fun ty hq => by cases hq; exact ⟨h1, h2⟩⟩
    · obtain ⟨a, h1, h2⟩ := arr_obj (C := RX10) (hts _ (lin_1 103 rfl))
      exact ⟨a, fun ty hq => by cases hq; exact ⟨h1, h2⟩⟩
  · obtain ⟨a, h1, h2⟩ := arr_prim (hts _ (xtbl_sub ka_int))
    exact ⟨a, fun q hq => absurd (List.getElem?_eq_some_iff.mp hq).1 (by show ¬ k < 8; exact hk)⟩
set_option maxRecDepth 100000 in
theorem st_row_0 {args : Array Value} {s : State} (hts : ∀ w ∈ lw_tbl, w.before args s = true) (hg : (Jvm.Cond.and given_1 narrow_1).before args s = true) : ∃ t : Nat, va_Z "PathTracker$Equation" "POWER_OF_X" "[I" (.ref t) (fun a => s.heap.size ≤ a) s s.heap ∧ va_T .int t 10 (fun j => .int (xPx j)) (fun a => s.heap.size ≤ a) s s.heap := by
  have hs := flat_of_before _ hg
  have hA : ∀ a : Nat, a < s.heap.size → ¬ s.heap.size ≤ a := fun a h => Nat.not_le.mpr h
  have harr : (Cond.arrayOf (Term.static "PathTracker$Equation" "POWER_OF_X" "[I") .int).before args s = true := hs _ (by decide +kernel)
  have hlen : (Cond.eq (.length (Term.static "PathTracker$Equation" "POWER_OF_X" "[I")) (.int 10)).before args s = true := hs _ (by decide +kernel)
  have e0 : (Cond.eq (.elem (Term.static "PathTracker$Equation" "POWER_OF_X" "[I") (.int 0)) (.int 0)).before args s = true := hs _ (by decide +kernel)
  have e1 : (Cond.eq (.elem (Term.static "PathTracker$Equation" "POWER_OF_X" "[I") (.int 1)) (.int 0)).before args s = true := hs _ (by decide +kernel)
  have e2 : (Cond.eq (.elem (Term.static "PathTracker$Equation" "POWER_OF_X" "[I") (.int 2)) (.int 0)).before args s = true := hs _ (by decide +kernel)
  have e3 : (Cond.eq (.elem (Term.static "PathTracker$Equation" "POWER_OF_X" "[I") (.int 3)) (.int 0)).before args s = true := hs _ (by decide +kernel)
  have e4 : (Cond.eq (.elem (Term.static "PathTracker$Equation" "POWER_OF_X" "[I") (.int 4)) (.int 1)).before args s = true := hs _ (by decide +kernel)
  have e5 : (Cond.eq (.elem (Term.static "PathTracker$Equation" "POWER_OF_X" "[I") (.int 5)) (.int 1)).before args s = true := hs _ (by decide +kernel)
  have e6 : (Cond.eq (.elem (Term.static "PathTracker$Equation" "POWER_OF_X" "[I") (.int 6)) (.int 1)).before args s = true := hs _ (by decide +kernel)
  have e7 : (Cond.eq (.elem (Term.static "PathTracker$Equation" "POWER_OF_X" "[I") (.int 7)) (.int 2)).before args s = true := hs _ (by decide +kernel)
  have e8 : (Cond.eq (.elem (Term.static "PathTracker$Equation" "POWER_OF_X" "[I") (.int 8)) (.int 2)).before args s = true := hs _ (by decide +kernel)
  have e9 : (Cond.eq (.elem (Term.static "PathTracker$Equation" "POWER_OF_X" "[I") (.int 9)) (.int 3)).before args s = true := hs _ (by decide +kernel)
  obtain ⟨t, h1, h2⟩ := va_Tof (N := 10) (f := fun j => .int (xPx j)) (by decide) harr (va_eqt hlen) (fun j hj => by
    rcases (show j = 0 ∨ j = 1 ∨ j = 2 ∨ j = 3 ∨ j = 4 ∨ j = 5 ∨ j = 6 ∨ j = 7 ∨ j = 8 ∨ j = 9 by omega) with rfl | rfl | rfl | rfl | rfl | rfl | rfl | rfl | rfl | rfl
    · exact va_eqt e0
    · exact va_eqt e1
    · exact va_eqt e2
    · exact va_eqt e3
    · exact va_eqt e4
    · exact va_eqt e5
    · exact va_eqt e6
    · exact va_eqt e7
    · exact va_eqt e8
    · exact va_eqt e9) hA
  exact ⟨t, va_Zof (hts _ (lin_2 85 rfl)) (hts _ (xtbl_sub kn_X1)) h1 hA, h2⟩
set_option maxRecDepth 100000 in
theorem st_row_1 {args : Array Value} {s : State} (hts : ∀ w ∈ lw_tbl, w.before args s = true) (hg : (Jvm.Cond.and given_1 narrow_1).before args s = true) : ∃ t : Nat, va_Z "PathTracker$Equation" "POWER_OF_Y" "[I" (.ref t) (fun a => s.heap.size ≤ a) s s.heap ∧ va_T .int t 10 (fun j => .int (xPy j)) (fun a => s.heap.size ≤ a) s s.heap := by
  have hs := flat_of_before _ hg
  have hA : ∀ a : Nat, a < s.heap.size → ¬ s.heap.size ≤ a := fun a h => Nat.not_le.mpr h
  have harr : (Cond.arrayOf (Term.static "PathTracker$Equation" "POWER_OF_Y" "[I") .int).before args s = true := hs _ (by decide +kernel)
  have hlen : (Cond.eq (.length (Term.static "PathTracker$Equation" "POWER_OF_Y" "[I")) (.int 10)).before args s = true := hs _ (by decide +kernel)
  have e0 : (Cond.eq (.elem (Term.static "PathTracker$Equation" "POWER_OF_Y" "[I") (.int 0)) (.int 0)).before args s = true := hs _ (by decide +kernel)
  have e1 : (Cond.eq (.elem (Term.static "PathTracker$Equation" "POWER_OF_Y" "[I") (.int 1)) (.int 1)).before args s = true := hs _ (by decide +kernel)
  have e2 : (Cond.eq (.elem (Term.static "PathTracker$Equation" "POWER_OF_Y" "[I") (.int 2)) (.int 2)).before args s = true := hs _ (by decide +kernel)
  have e3 : (Cond.eq (.elem (Term.static "PathTracker$Equation" "POWER_OF_Y" "[I") (.int 3)) (.int 3)).before args s = true := hs _ (by decide +kernel)
  have e4 : (Cond.eq (.elem (Term.static "PathTracker$Equation" "POWER_OF_Y" "[I") (.int 4)) (.int 0)).before args s = true := hs _ (by decide +kernel)
  have e5 : (Cond.eq (.elem (Term.static "PathTracker$Equation" "POWER_OF_Y" "[I") (.int 5)) (.int 1)).before args s = true := hs _ (by decide +kernel)
  have e6 : (Cond.eq (.elem (Term.static "PathTracker$Equation" "POWER_OF_Y" "[I") (.int 6)) (.int 2)).before args s = true := hs _ (by decide +kernel)
  have e7 : (Cond.eq (.elem (Term.static "PathTracker$Equation" "POWER_OF_Y" "[I") (.int 7)) (.int 0)).before args s = true := hs _ (by decide +kernel)
  have e8 : (Cond.eq (.elem (Term.static "PathTracker$Equation" "POWER_OF_Y" "[I") (.int 8)) (.int 1)).before args s = true := hs _ (by decide +kernel)
  have e9 : (Cond.eq (.elem (Term.static "PathTracker$Equation" "POWER_OF_Y" "[I") (.int 9)) (.int 0)).before args s = true := hs _ (by decide +kernel)
  obtain ⟨t, h1, h2⟩ := va_Tof (N := 10) (f := fun j => .int (xPy j)) (by decide) harr (va_eqt hlen) (fun j hj => by
    rcases (show j = 0 ∨ j = 1 ∨ j = 2 ∨ j = 3 ∨ j = 4 ∨ j = 5 ∨ j = 6 ∨ j = 7 ∨ j = 8 ∨ j = 9 by omega) with rfl | rfl | rfl | rfl | rfl | rfl | rfl | rfl | rfl | rfl
    · exact va_eqt e0
    · exact va_eqt e1
    · exact va_eqt e2
    · exact va_eqt e3
    · exact va_eqt e4
    · exact va_eqt e5
    · exact va_eqt e6
    · exact va_eqt e7
    · exact va_eqt e8
    · exact va_eqt e9) hA
  exact ⟨t, va_Zof (hts _ (lin_2 87 rfl)) (hts _ (xtbl_sub kn_X1)) h1 hA, h2⟩
set_option maxRecDepth 100000 in
theorem st_row_2 {args : Array Value} {s : State} (hts : ∀ w ∈ lw_tbl, w.before args s = true) (hg : (Jvm.Cond.and given_1 narrow_1).before args s = true) : ∃ t : Nat, va_Z "PathTracker$Equation" "FIRST_TERM" "[I" (.ref t) (fun a => s.heap.size ≤ a) s s.heap ∧ va_T .int t 4 (fun j => .int (xFt j)) (fun a => s.heap.size ≤ a) s s.heap := by
  have hs := flat_of_before _ hg
  have hA : ∀ a : Nat, a < s.heap.size → ¬ s.heap.size ≤ a := fun a h => Nat.not_le.mpr h
  have harr : (Cond.arrayOf (Term.static "PathTracker$Equation" "FIRST_TERM" "[I") .int).before args s = true := hs _ (by decide +kernel)
  have hlen : (Cond.eq (.length (Term.static "PathTracker$Equation" "FIRST_TERM" "[I")) (.int 4)).before args s = true := hs _ (by decide +kernel)
  have e0 : (Cond.eq (.elem (Term.static "PathTracker$Equation" "FIRST_TERM" "[I") (.int 0)) (.int 0)).before args s = true := hs _ (by decide +kernel)
  have e1 : (Cond.eq (.elem (Term.static "PathTracker$Equation" "FIRST_TERM" "[I") (.int 1)) (.int 4)).before args s = true := hs _ (by decide +kernel)
  have e2 : (Cond.eq (.elem (Term.static "PathTracker$Equation" "FIRST_TERM" "[I") (.int 2)) (.int 7)).before args s = true := hs _ (by decide +kernel)
  have e3 : (Cond.eq (.elem (Term.static "PathTracker$Equation" "FIRST_TERM" "[I") (.int 3)) (.int 9)).before args s = true := hs _ (by decide +kernel)
  obtain ⟨t, h1, h2⟩ := va_Tof (N := 4) (f := fun j => .int (xFt j)) (by decide) harr (va_eqt hlen) (fun j hj => by
    rcases (show j = 0 ∨ j = 1 ∨ j = 2 ∨ j = 3 by omega) with rfl | rfl | rfl | rfl
    · exact va_eqt e0
    · exact va_eqt e1
    · exact va_eqt e2
    · exact va_eqt e3) hA
  exact ⟨t, va_Zof (hts _ (lin_2 64 rfl)) (hts _ (xtbl_sub kn_X1)) h1 hA, h2⟩
set_option maxRecDepth 100000 in
theorem st_row_3 {args : Array Value} {s : State} (hts : ∀ w ∈ lw_tbl, w.before args s = true) (hg : (Jvm.Cond.and given_1 narrow_1).before args s = true) : ∃ t : Nat, va_Z "PathTracker$State" "FIRST_VALUE" "[I" (.ref t) (fun a => s.heap.size ≤ a) s s.heap ∧ va_T .int t 8 (fun j => .int (xFv j)) (fun a => s.heap.size ≤ a) s s.heap := by
  have hs := flat_of_before _ hg
  have hA : ∀ a : Nat, a < s.heap.size → ¬ s.heap.size ≤ a := fun a h => Nat.not_le.mpr h
  have harr : (Cond.arrayOf (Term.static "PathTracker$State" "FIRST_VALUE" "[I") .int).before args s = true := hs _ (by decide +kernel)
  have hlen : (Cond.eq (.length (Term.static "PathTracker$State" "FIRST_VALUE" "[I")) (.int 8)).before args s = true := hs _ (by decide +kernel)
  have e0 : (Cond.eq (.elem (Term.static "PathTracker$State" "FIRST_VALUE" "[I") (.int 0)) (.int 64)).before args s = true := hs _ (by decide +kernel)
  have e1 : (Cond.eq (.elem (Term.static "PathTracker$State" "FIRST_VALUE" "[I") (.int 1)) (.int 128)).before args s = true := hs _ (by decide +kernel)
  have e2 : (Cond.eq (.elem (Term.static "PathTracker$State" "FIRST_VALUE" "[I") (.int 2)) (.int 3)).before args s = true := hs _ (by decide +kernel)
  have e3 : (Cond.eq (.elem (Term.static "PathTracker$State" "FIRST_VALUE" "[I") (.int 3)) (.int 4)).before args s = true := hs _ (by decide +kernel)
  have e4 : (Cond.eq (.elem (Term.static "PathTracker$State" "FIRST_VALUE" "[I") (.int 4)) (.int 100)).before args s = true := hs _ (by decide +kernel)
  have e5 : (Cond.eq (.elem (Term.static "PathTracker$State" "FIRST_VALUE" "[I") (.int 5)) (.int 10)).before args s = true := hs _ (by decide +kernel)
  have e6 : (Cond.eq (.elem (Term.static "PathTracker$State" "FIRST_VALUE" "[I") (.int 6)) (.int 3)).before args s = true := hs _ (by decide +kernel)
  have e7 : (Cond.eq (.elem (Term.static "PathTracker$State" "FIRST_VALUE" "[I") (.int 7)) (.int 2)).before args s = true := hs _ (by decide +kernel)
  obtain ⟨t, h1, h2⟩ := va_Tof (N := 8) (f := fun j => .int (xFv j)) (by decide) harr (va_eqt hlen) (fun j hj => by
    rcases (show j = 0 ∨ j = 1 ∨ j = 2 ∨ j = 3 ∨ j = 4 ∨ j = 5 ∨ j = 6 ∨ j = 7 by omega) with rfl | rfl | rfl | rfl | rfl | rfl | rfl | rfl
    · exact va_eqt e0
    · exact va_eqt e1
    · exact va_eqt e2
    · exact va_eqt e3
    · exact va_eqt e4
    · exact va_eqt e5
    · exact va_eqt e6
    · exact va_eqt e7) hA
  exact ⟨t, va_Zof (hts _ (lin_2 75 rfl)) (hts _ (xtbl_sub kn_X9)) h1 hA, h2⟩
set_option maxRecDepth 100000 in
theorem st_row_4 {args : Array Value} {s : State} (hts : ∀ w ∈ lw_tbl, w.before args s = true) (hg : (Jvm.Cond.and given_1 narrow_1).before args s = true) : ∃ t : Nat, va_Z "PathTracker$State" "LEAST_VALUE" "[I" (.ref t) (fun a => s.heap.size ≤ a) s s.heap ∧ va_T .int t 8 (fun j => .int (xLv j)) (fun a => s.heap.size ≤ a) s s.heap := by
  have hs := flat_of_before _ hg
  have hA : ∀ a : Nat, a < s.heap.size → ¬ s.heap.size ≤ a := fun a h => Nat.not_le.mpr h
  have harr : (Cond.arrayOf (Term.static "PathTracker$State" "LEAST_VALUE" "[I") .int).before args s = true := hs _ (by decide +kernel)
  have hlen : (Cond.eq (.length (Term.static "PathTracker$State" "LEAST_VALUE" "[I")) (.int 8)).before args s = true := hs _ (by decide +kernel)
  have e0 : (Cond.eq (.elem (Term.static "PathTracker$State" "LEAST_VALUE" "[I") (.int 0)) (.int 1)).before args s = true := hs _ (by decide +kernel)
  have e1 : (Cond.eq (.elem (Term.static "PathTracker$State" "LEAST_VALUE" "[I") (.int 1)) (.int 1)).before args s = true := hs _ (by decide +kernel)
  have e2 : (Cond.eq (.elem (Term.static "PathTracker$State" "LEAST_VALUE" "[I") (.int 2)) (.int 1)).before args s = true := hs _ (by decide +kernel)
  have e3 : (Cond.eq (.elem (Term.static "PathTracker$State" "LEAST_VALUE" "[I") (.int 3)) (.int 1)).before args s = true := hs _ (by decide +kernel)
  have e4 : (Cond.eq (.elem (Term.static "PathTracker$State" "LEAST_VALUE" "[I") (.int 4)) (.int 2)).before args s = true := hs _ (by decide +kernel)
  have e5 : (Cond.eq (.elem (Term.static "PathTracker$State" "LEAST_VALUE" "[I") (.int 5)) (.int 0)).before args s = true := hs _ (by decide +kernel)
  have e6 : (Cond.eq (.elem (Term.static "PathTracker$State" "LEAST_VALUE" "[I") (.int 6)) (.int (-16))).before args s = true := hs _ (by decide +kernel)
  have e7 : (Cond.eq (.elem (Term.static "PathTracker$State" "LEAST_VALUE" "[I") (.int 7)) (.int (-16))).before args s = true := hs _ (by decide +kernel)
  obtain ⟨t, h1, h2⟩ := va_Tof (N := 8) (f := fun j => .int (xLv j)) (by decide) harr (va_eqt hlen) (fun j hj => by
    rcases (show j = 0 ∨ j = 1 ∨ j = 2 ∨ j = 3 ∨ j = 4 ∨ j = 5 ∨ j = 6 ∨ j = 7 by omega) with rfl | rfl | rfl | rfl | rfl | rfl | rfl | rfl
    · exact va_eqt e0
    · exact va_eqt e1
    · exact va_eqt e2
    · exact va_eqt e3
    · exact va_eqt e4
    · exact va_eqt e5
    · exact va_eqt e6
    · exact va_eqt e7) hA
  exact ⟨t, va_Zof (hts _ (lin_4 52 rfl)) (hts _ (xtbl_sub kn_X9)) h1 hA, h2⟩
set_option maxRecDepth 100000 in
theorem st_row_5 {args : Array Value} {s : State} (hts : ∀ w ∈ lw_tbl, w.before args s = true) (hg : (Jvm.Cond.and given_1 narrow_1).before args s = true) : ∃ t : Nat, va_Z "PathTracker$State" "GREATEST_VALUE" "[I" (.ref t) (fun a => s.heap.size ≤ a) s s.heap ∧ va_T .int t 8 (fun j => .int (xGv j)) (fun a => s.heap.size ≤ a) s s.heap := by
  have hs := flat_of_before _ hg
  have hA : ∀ a : Nat, a < s.heap.size → ¬ s.heap.size ≤ a := fun a h => Nat.not_le.mpr h
  have harr : (Cond.arrayOf (Term.static "PathTracker$State" "GREATEST_VALUE" "[I") .int).before args s = true := hs _ (by decide +kernel)
  have hlen : (Cond.eq (.length (Term.static "PathTracker$State" "GREATEST_VALUE" "[I")) (.int 8)).before args s = true := hs _ (by decide +kernel)
  have e0 : (Cond.eq (.elem (Term.static "PathTracker$State" "GREATEST_VALUE" "[I") (.int 0)) (.int 256)).before args s = true := hs _ (by decide +kernel)
  have e1 : (Cond.eq (.elem (Term.static "PathTracker$State" "GREATEST_VALUE" "[I") (.int 1)) (.int 256)).before args s = true := hs _ (by decide +kernel)
  have e2 : (Cond.eq (.elem (Term.static "PathTracker$State" "GREATEST_VALUE" "[I") (.int 2)) (.int 6)).before args s = true := hs _ (by decide +kernel)
  have e3 : (Cond.eq (.elem (Term.static "PathTracker$State" "GREATEST_VALUE" "[I") (.int 3)) (.int 64)).before args s = true := hs _ (by decide +kernel)
  have e4 : (Cond.eq (.elem (Term.static "PathTracker$State" "GREATEST_VALUE" "[I") (.int 4)) (.int 500)).before args s = true := hs _ (by decide +kernel)
  have e5 : (Cond.eq (.elem (Term.static "PathTracker$State" "GREATEST_VALUE" "[I") (.int 5)) (.int 1000)).before args s = true := hs _ (by decide +kernel)
  have e6 : (Cond.eq (.elem (Term.static "PathTracker$State" "GREATEST_VALUE" "[I") (.int 6)) (.int 16)).before args s = true := hs _ (by decide +kernel)
  have e7 : (Cond.eq (.elem (Term.static "PathTracker$State" "GREATEST_VALUE" "[I") (.int 7)) (.int 16)).before args s = true := hs _ (by decide +kernel)
  obtain ⟨t, h1, h2⟩ := va_Tof (N := 8) (f := fun j => .int (xGv j)) (by decide) harr (va_eqt hlen) (fun j hj => by
    rcases (show j = 0 ∨ j = 1 ∨ j = 2 ∨ j = 3 ∨ j = 4 ∨ j = 5 ∨ j = 6 ∨ j = 7 by omega) with rfl | rfl | rfl | rfl | rfl | rfl | rfl | rfl
    · exact va_eqt e0
    · exact va_eqt e1
    · exact va_eqt e2
    · exact va_eqt e3
    · exact va_eqt e4
    · exact va_eqt e5
    · exact va_eqt e6
    · exact va_eqt e7) hA
  exact ⟨t, va_Zof (hts _ (lin_4 54 rfl)) (hts _ (xtbl_sub kn_X9)) h1 hA, h2⟩
theorem st_stat {args : Array Value} {s : State} (hts : ∀ w ∈ lw_tbl, w.before args s = true) (hg : (Jvm.Cond.and given_1 narrow_1).before args s = true) : ∀ k : Nat, ∃ t : Nat, ∀ q : String × String × Nat × (Nat → Int32), xStats[k]? = some q → va_Z q.1 q.2.1 "[I" (.ref t) (fun a => s.heap.size ≤ a) s s.heap ∧ va_T .int t q.2.2.1 (fun j => .int (q.2.2.2 j)) (fun a => s.heap.size ≤ a) s s.heap := by
  intro k
  by_cases hk : k < 6
  · rcases (show k = 0 ∨ k = 1 ∨ k = 2 ∨ k = 3 ∨ k = 4 ∨ k = 5 by omega) with rfl | rfl | rfl | rfl | rfl | rfl
    · obtain ⟨t, h⟩ := st_row_0 hts hg
      exact ⟨t, fun q hq => by cases hq; exact h⟩
    · obtain ⟨t, h⟩ := st_row_1 hts hg
      exact ⟨t, fun q hq => by cases hq; exact h⟩
    · obtain ⟨t, h⟩ := st_row_2 hts hg
      exact ⟨t, fun q hq => by cases hq; exact h⟩
    · obtain ⟨t, h⟩ := st_row_3 hts hg
      exact ⟨t, fun q hq => by cases hq; exact h⟩
    · obtain ⟨t, h⟩ := st_row_4 hts hg
      exact ⟨t, fun q hq => by cases hq; exact h⟩
    · obtain ⟨t, h⟩ := st_row_5 hts hg
      exact ⟨t, fun q hq => by cases hq; exact h⟩
  · exact ⟨0, fun q hq => absurd (List.getElem?_eq_some_iff.mp hq).1 (by show ¬ k < 6; exact hk)⟩
/-- what stands at the start, for any z that is the heap's size -/
theorem st_all {args : Array Value} {s : State} (hts : ∀ w ∈ lw_tbl, w.before args s = true) (hg : (Jvm.Cond.and given_1 narrow_1).before args s = true) : ∃ D : xD, xK D s ∧ xZ D s.heap.size s s.heap := by
  have htx : ∀ w ∈ xtbl, w.before args s = true := fun w hw => hts w (xtbl_sub hw)
  have hc := st_cls htx
  have ha := st_arr hts
  have hst := st_stat hts hg
  let D : xD := ((fun k => (Classical.choose (hc k)).1, fun k => (Classical.choose (hc k)).2), fun k => Classical.choose (ha k), fun k => Classical.choose (hst k))
  have hD : ∀ k ty, xTyL[k]? = some ty → ArrOfT s (D.2.1 k) ty ∧ va_RA s (D.2.1 k) ty := fun k ty h => Classical.choose_spec (ha k) ty h
  refine ⟨D, ⟨⟨fun k q hq => Classical.choose_spec (hc k) q hq, fun k q hq => ?_⟩, fun C hC => ?_, fun q hq => ?_⟩, fun k q hq => Classical.choose_spec (hst k) q hq⟩
  · have hk : k < 8 := (List.getElem?_eq_some_iff.mp hq).1
    rcases (show k = 0 ∨ k = 1 ∨ k = 2 ∨ k = 3 ∨ k = 4 ∨ k = 5 ∨ k = 6 ∨ k = 7 by omega) with rfl | rfl | rfl | rfl | rfl | rfl | rfl | rfl
    · cases hq; exact hD 0 _ rfl
    · cases hq; exact hD 1 _ rfl
    · cases hq; exact hD 2 _ rfl
    · cases hq; exact hD 3 _ rfl
    · cases hq; exact hD 4 _ rfl
    · cases hq; exact hD 5 _ rfl
    · cases hq; exact hD 6 _ rfl
    · cases hq; exact hD 7 _ rfl
  · simp only [List.mem_cons, List.not_mem_nil, or_false] at hC
    rcases hC with rfl | rfl | rfl | rfl | rfl
    · exact va_AO.of (hts _ (lin_1 94 rfl))
    · exact va_AO.of (hts _ (lin_1 101 rfl))
    · exact va_AO.of (hts _ (lin_1 218 rfl))
    · exact va_AO.of (hts _ (lin_2 131 rfl))
    · exact va_AO.of (hts _ (lin_1 103 rfl))
  · have hq' := hq
    simp only [xNest, List.mem_cons, List.not_mem_nil, or_false] at hq'
    rcases hq' with rfl | rfl | rfl | rfl | rfl | rfl
    · exact va_Nw.of rfl (hts _ (lin_1 38 rfl))
    · exact va_Nw.of rfl (hts _ (lin_1 95 rfl))
    · exact va_Nw.of rfl (hts _ (lin_1 111 rfl))
    · exact va_Nw.of rfl (hts _ (lin_1 160 rfl))
    · exact va_Nw.of rfl (hts _ (lin_1 183 rfl))
    · exact va_Nw.of rfl (hts _ (lin_1 225 rfl))
