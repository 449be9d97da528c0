/-! what the statement gives of the start, 2 -/
theorem start_Z {args : Array Value} {s : State} {A : Nat → Prop} (hts : ∀ w ∈ lw_tbl, w.before args s = true) (hgv : (Cond.and given_1 narrow_1).before args s = true) (hA : ∀ a : Nat, a < s.heap.size → ¬ A a) : ∃ Z : Ky, SK Z A s s.heap ∧ DG A s s.heap := by
  have hs : ∀ c ∈ flS, c.before args s = true := flat_of_before _ hgv
  obtain ⟨adK, adV, hS, hE⟩ := vk_Sof (N := 4) (tm := tmS) (len := lenS) (byt := bytS) (A := A) (by decide) (fun i hi => hs _ (fl_1 i hi)) (fun i hi => hs _ (fl_2 i hi)) (fun i hi => hs _ (fl_3 i hi)) (fun i hi => hs _ (fl_4 i hi)) (fun i hi j hj => hs _ (fl_5 i hi j hj)) (fun i j hi hj hij => (fl_6 i hi j hj hij).imp (fun h => hs _ h) (fun h => hs _ h)) hA
  have hE9 : ∀ i, i < 4 → (Term.string "PromiseMindModel" (([278, 280, 282, 284] : List Nat).getD i 0)).eval args s none [] s = some (.ref (adK i)) := fun i hi => eq_ref (hs _ (fl_7 i hi)) (hE i hi)
  obtain ⟨t1, ht1, hT1⟩ := va_Tof (tm := .static "java/lang/Integer" "DigitOnes" "[B") (N := 100) (f := fun j => .int (zI (48 + (j : Int) % 10))) (A := A) (by decide) (hs _ fl_10.1) (va_eqt (hs _ fl_10.2)) (fun j hj => va_eqt (hs _ (fl_12 j hj))) hA
  obtain ⟨t2, ht2, hT2⟩ := va_Tof (tm := .static "java/lang/Integer" "DigitTens" "[B") (N := 100) (f := fun j => .int (zI (48 + (j : Int) / 10))) (A := A) (by decide) (hs _ fl_11.1) (va_eqt (hs _ fl_11.2)) (fun j hj => va_eqt (hs _ (fl_13 j hj))) hA
  refine ⟨(adK, adV), ⟨hS, ⟨⟨vk_R.of (hts _ (by decide +kernel)) (hE 0 (by decide)), vk_R.of (hts _ (by decide +kernel)) (hE 1 (by decide)), vk_R.of (hts _ (by decide +kernel)) (hE 2 (by decide)), vk_R.of (hts _ (by decide +kernel)) (hE 3 (by decide))⟩, vk_R.of (hts _ (by decide +kernel)) (hE9 0 (by decide)), vk_R.of (hts _ (by decide +kernel)) (hE9 1 (by decide)), vk_R.of (hts _ (by decide +kernel)) (hE9 2 (by decide)), vk_R.of (hts _ (by decide +kernel)) (hE9 3 (by decide))⟩, va_Zof (hts (.laysStatic "java/lang/String" "COMPACT_STRINGS" "Z") (by decide +kernel)) (hts (.initialized "java/lang/String") (by decide +kernel)) (va_eqt (hs _ fl_8)) hA, va_Zqof (hts (.laysStatic "jdk/internal/util/Preconditions" "SIOOBE_FORMATTER" "Ljava/util/function/BiFunction;") (by decide +kernel)) (hts (.initialized "jdk/internal/util/Preconditions") (by decide +kernel)) (hs _ fl_9) hA⟩, t1, t2, ⟨va_Zref (hts (.laysStatic "java/lang/Integer" "DigitOnes" "[B") (by decide +kernel)) (hts (.initialized "java/lang/Integer") (by decide +kernel)) ht1 hA, hT1⟩, va_Zref (hts (.laysStatic "java/lang/Integer" "DigitTens" "[B") (by decide +kernel)) (hts (.initialized "java/lang/Integer") (by decide +kernel)) ht2 hA, hT2⟩
theorem ut_J4 : ∀ w ∈ u_ws RJ4 TJ4 4, w ∈ lw_tbl := by decide +kernel
theorem ut_X0 : ∀ w ∈ u_ws RX0 TX0 6, w ∈ lw_tbl := by decide +kernel
theorem ut_X1 : ∀ w ∈ u_ws RX1 TX1 7, w ∈ lw_tbl := by decide +kernel
theorem ut_X2 : ∀ w ∈ u_ws RX2 TX2 3, w ∈ lw_tbl := by decide +kernel
theorem ut_X3 : ∀ w ∈ u_ws RX3 TX3 2, w ∈ lw_tbl := by decide +kernel
theorem ut_X4 : ∀ w ∈ u_ws RX4 TX4 2, w ∈ lw_tbl := by decide +kernel
theorem ut_X5 : ∀ w ∈ u_ws RX5 TX5 5, w ∈ lw_tbl := by decide +kernel
theorem ut_X6 : ∀ w ∈ u_ws RX6 TX6 2, w ∈ lw_tbl := by decide +kernel
theorem ut_X7 : ∀ w ∈ u_ws RX7 TX7 4, w ∈ lw_tbl := by decide +kernel
theorem ut_X8 : ∀ w ∈ u_ws RX8 TX8 13, w ∈ lw_tbl := by decide +kernel
theorem ut_X9 : ∀ w ∈ u_ws RX9 TX9 35, w ∈ lw_tbl := by decide +kernel
theorem start_D {args : Array Value} {s : State} (hts : ∀ w ∈ lw_tbl, w.before args s = true) : ∃ D : va_G, ∀ (c : Nat) (q : vw_C), vwCl[c]? = some q → u_Kn s q.1 q.2.1 q.2.2 (D.1 c) (D.2 c) := by
  obtain ⟨cJ4, iJ4, hJ4⟩ := u_known (C := RJ4) (T := TJ4) (N := 4) (n := 4) hts ut_J4 (hts (.instantiable RJ4 4) (by decide +kernel))
  obtain ⟨cX0, iX0, hX0⟩ := u_known (C := RX0) (T := TX0) (N := 6) (n := 6) hts ut_X0 (hts (.instantiable RX0 6) (by decide +kernel))
  obtain ⟨cX1, iX1, hX1⟩ := u_known (C := RX1) (T := TX1) (N := 7) (n := 7) hts ut_X1 (hts (.instantiable RX1 7) (by decide +kernel))
  obtain ⟨cX2, iX2, hX2⟩ := u_known (C := RX2) (T := TX2) (N := 3) (n := 3) hts ut_X2 (hts (.instantiable RX2 3) (by decide +kernel))
  obtain ⟨cX3, iX3, hX3⟩ := u_known (C := RX3) (T := TX3) (N := 2) (n := 2) hts ut_X3 (hts (.instantiable RX3 2) (by decide +kernel))
  obtain ⟨cX4, iX4, hX4⟩ := u_known (C := RX4) (T := TX4) (N := 2) (n := 2) hts ut_X4 (hts (.instantiable RX4 2) (by decide +kernel))
  obtain ⟨cX5, iX5, hX5⟩ := u_known (C := RX5) (T := TX5) (N := 5) (n := 5) hts ut_X5 (hts (.instantiable RX5 5) (by decide +kernel))
  obtain ⟨cX6, iX6, hX6⟩ := u_known (C := RX6) (T := TX6) (N := 2) (n := 2) hts ut_X6 (hts (.instantiable RX6 2) (by decide +kernel))
  obtain ⟨cX7, iX7, hX7⟩ := u_known (C := RX7) (T := TX7) (N := 4) (n := 4) hts ut_X7 (hts (.instantiable RX7 4) (by decide +kernel))
  obtain ⟨cX8, iX8, hX8⟩ := u_known (C := RX8) (T := TX8) (N := 13) (n := 13) hts ut_X8 (hts (.instantiable RX8 13) (by decide +kernel))
  obtain ⟨cX9, iX9, hX9⟩ := u_known (C := RX9) (T := TX9) (N := 35) (n := 35) hts ut_X9 (hts (.instantiable RX9 35) (by decide +kernel))
  refine ⟨(fun c => ([cJ4, cX0, cX1, cX2, cX3, cX4, cX5, cX6, cX7, cX8, cX9] : List ClassId).getD c 0, fun c => ([iJ4, iX0, iX1, iX2, iX3, iX4, iX5, iX6, iX7, iX8, iX9] : List (Nat → Nat)).getD c (fun _ => 0)), fun c q hq => ?_⟩
  have hc : c < 11 := (List.getElem?_eq_some_iff.mp hq).1
  rcases (show c = 0 ∨ c = 1 ∨ c = 2 ∨ c = 3 ∨ c = 4 ∨ c = 5 ∨ c = 6 ∨ c = 7 ∨ c = 8 ∨ c = 9 ∨ c = 10 by omega) with rfl | rfl | rfl | rfl | rfl | rfl | rfl | rfl | rfl | rfl | rfl
  · cases hq; exact hJ4
  · cases hq; exact hX0
  · cases hq; exact hX1
  · cases hq; exact hX2
  · cases hq; exact hX3
  · cases hq; exact hX4
  · cases hq; exact hX5
  · cases hq; exact hX6
  · cases hq; exact hX7
  · cases hq; exact hX8
  · cases hq; exact hX9
theorem start_A {args : Array Value} {s : State} {ty : FieldType} (h : (Cond.arrayClass ty).before args s = true) : ∃ cA : ClassId, ArrOfT s cA ty ∧ s.vm.findClass ("[" ++ ty.toString) = some cA := by
  obtain ⟨cA, kA, comp, h1, h2, h3⟩ := Cond.arrayClass_spec h
  exact ⟨cA, fun n z => ⟨fun k h => (by cases h), kA, h2, comp, h3⟩, h1⟩
theorem start_N {args : Array Value} {s : State} (hts : ∀ w ∈ lw_tbl, w.before args s = true) : nkP s := by
  refine ⟨fun w hw hn => ?_, va_AO.of (hts (.arrayOver (.object "PromiseMind$State")) (by decide +kernel)), ?_⟩
  · exact va_tabs (isN_tab hn) rfl (hts w (List.mem_append_right _ hw))
  · exact (hts (.arrayOver (.array .int)) (by decide +kernel) : (Cond.arrayOver (.array .int)).before args s = true)
theorem start_K {args : Array Value} {s : State} (hts : ∀ w ∈ lw_tbl, w.before args s = true) : ∃ (K : Nat → ClassId) (cB : ClassId), (∀ (k : Nat) (q : ClassId × FieldType), (tyk K ++ [(cB, FieldType.byte)])[k]? = some q → ArrOfT s q.1 q.2 ∧ va_RA s q.1 q.2) ∧ s.vm.findClass ("[" ++ FieldType.byte.toString) = some cB := by
  obtain ⟨c0, a0, f0⟩ := start_A (ty := .int) (hts (.arrayClass .int) (by decide +kernel))
  obtain ⟨c1, a1, f1⟩ := start_A (ty := .char) (hts (.arrayClass .char) (by decide +kernel))
  obtain ⟨c2, a2, f2⟩ := start_A (ty := .long) (hts (.arrayClass .long) (by decide +kernel))
  obtain ⟨cB, aB, fB⟩ := start_A (ty := .byte) (hts (.arrayClass .byte) (by decide +kernel))
  have hN := start_N hts
  obtain ⟨m3, c3, k3, g1, g2, g3, g4, g5⟩ := hN.2.2.spec
  obtain ⟨m4, c4, k4, e1, e2, e3, e4, e5⟩ := Cond.arrayOver_spec hN.2.1
  refine ⟨fun k => ([c0, c1, c2, c3, c4] : List ClassId).getD k 0, cB, fun k q hq => ?_, fB⟩
  have hc : k < 6 := (List.getElem?_eq_some_iff.mp hq).1
  rcases (show k = 0 ∨ k = 1 ∨ k = 2 ∨ k = 3 ∨ k = 4 ∨ k = 5 by omega) with rfl | rfl | rfl | rfl | rfl | rfl
  · cases hq; exact ⟨a0, f0⟩
  · cases hq; exact ⟨a1, f1⟩
  · cases hq; exact ⟨a2, f2⟩
  · cases hq; exact ⟨fun n z => ⟨fun k h => (by cases h), k3, g3, m3, g4⟩, g5⟩
  · cases hq; exact ⟨fun n z => ⟨fun k h => (by cases h), k4, e3, m4, e4⟩, k4, m4, e3, e4, e1, e5⟩
  · cases hq; exact ⟨aB, fB⟩
