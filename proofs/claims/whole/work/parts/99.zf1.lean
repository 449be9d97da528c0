/-! what the statement gives of the start -/
theorem eq_ref {args : Array Value} {s : State} {t u : Term} {x : Nat} (h : (Cond.eq t u).before args s = true) (ht : t.eval args s none [] s = some (.ref x)) : u.eval args s none [] s = some (.ref x) := by
  cases hv : u.eval args s none [] s with
  | none => simp [Cond.before, Cond.holds, Cond.value, hv, ht] at h
  | some w =>
    simp only [Cond.before, Cond.holds, Cond.value, hv, ht] at h
    cases w <;> simp_all
def flS : List Cond := flatC (Cond.and given_1 narrow_1)
def tmS (i : Nat) : Term := .string "PromiseMind" (([330, 336, 338, 340] : List Nat).getD i 0)
theorem fl_1 : ∀ i, i < 4 → Cond.exactly (tmS i) "java/lang/String" ∈ flS := by decide +kernel
theorem fl_2 : ∀ i, i < 4 → Cond.eq (.field (tmS i) "java/lang/String" "coder" "B") (.int 0) ∈ flS := by decide +kernel
theorem fl_3 : ∀ i, i < 4 → Cond.arrayOf (.field (tmS i) "java/lang/String" "value" "[B") .byte ∈ flS := by decide +kernel
theorem fl_4 : ∀ i, i < 4 → Cond.eq (.length (.field (tmS i) "java/lang/String" "value" "[B")) (.int (Int32.ofNat (lenS.getD i 0))) ∈ flS := by decide +kernel
theorem fl_5 : ∀ i, i < 4 → ∀ j, j < lenS.getD i 0 → Cond.eq (.elem (.field (tmS i) "java/lang/String" "value" "[B") (.int (Int32.ofNat j))) (.int ((bytS.getD i []).getD j 0)) ∈ flS := by decide +kernel
theorem fl_6 : ∀ i, i < 4 → ∀ j, j < 4 → i ≠ j → (Cond.not (Cond.eq (tmS i) (tmS j)) ∈ flS ∨ Cond.not (Cond.eq (tmS j) (tmS i)) ∈ flS) := by decide +kernel
theorem fl_7 : ∀ i, i < 4 → Cond.eq (tmS i) (.string "PromiseMindModel" (([278, 280, 282, 284] : List Nat).getD i 0)) ∈ flS := by decide +kernel
theorem fl_8 : Cond.eq (.static "java/lang/String" "COMPACT_STRINGS" "Z") (.int 1) ∈ flS := by decide +kernel
theorem fl_9 : Cond.isRef (.static "jdk/internal/util/Preconditions" "SIOOBE_FORMATTER" "Ljava/util/function/BiFunction;") ∈ flS := by decide +kernel
theorem fl_10 : Cond.arrayOf (.static "java/lang/Integer" "DigitOnes" "[B") .byte ∈ flS ∧ Cond.eq (.length (.static "java/lang/Integer" "DigitOnes" "[B")) (.int 100) ∈ flS := by decide +kernel
theorem fl_11 : Cond.arrayOf (.static "java/lang/Integer" "DigitTens" "[B") .byte ∈ flS ∧ Cond.eq (.length (.static "java/lang/Integer" "DigitTens" "[B")) (.int 100) ∈ flS := by decide +kernel
def ff_12 (j : Nat) : Cond := Cond.eq (.elem (.static "java/lang/Integer" "DigitOnes" "[B") (.int (Int32.ofNat j))) (.int (zI (48 + (j : Int) % 10)))
theorem fs_12 : ((List.range 100).map ff_12).isSublist flS = true := by decide +kernel
theorem fl_12 : ∀ j, j < 100 → Cond.eq (.elem (.static "java/lang/Integer" "DigitOnes" "[B") (.int (Int32.ofNat j))) (.int (zI (48 + (j : Int) % 10))) ∈ flS := fun j hj => (List.isSublist_iff_sublist.mp fs_12).subset (List.mem_map.mpr ⟨j, List.mem_range.mpr hj, rfl⟩)
def ff_13 (j : Nat) : Cond := Cond.eq (.elem (.static "java/lang/Integer" "DigitTens" "[B") (.int (Int32.ofNat j))) (.int (zI (48 + (j : Int) / 10)))
theorem fs_13 : ((List.range 100).map ff_13).isSublist flS = true := by decide +kernel
theorem fl_13 : ∀ j, j < 100 → Cond.eq (.elem (.static "java/lang/Integer" "DigitTens" "[B") (.int (Int32.ofNat j))) (.int (zI (48 + (j : Int) / 10))) ∈ flS := fun j hj => (List.isSublist_iff_sublist.mp fs_13).subset (List.mem_map.mpr ⟨j, List.mem_range.mpr hj, rfl⟩)
