/-! Math.max, Math.min -/
section WPWm2
variable {p : Program} {l : Launch} {e : Env} {R : Room} {s : State} {m : MethodId} {args : Array Value} {below : List Frame} {meth : Method} {c : Code} {A : Nat → Prop} {H0 : Heap} {nL : Nat} {Q : State → Prop}
variable {D : va_G} {cl : List vw_C} {tys : List (ClassId × FieldType)} {ws : va_W} {cells slots : Nat} {pc : Nat} {lv : List (Nat × Value)} {st : List Value} {cc : ByteArray} {own : String} {Ts : List Cond}
theorem wpw_mmax {index : Nat} {a b : Int} (hC : Cw p s m args meth c A H0 nL D cl tys cc own Ts) (h1 : Cond.methodLink own index Lib.Math.max.name ∈ Ts) (h2 : Cond.static Lib.Math.max.name ∈ Ts) (h3 : Cond.initialized "java/lang/Math" ∈ Ts) (h4 : Cond.code Lib.Math.max.name Lib.Math.max.code 2 (some .int) ∈ Ts) (hf : 1 ≤ R.frames) (hlo : (st.map fun v => v.category).sum + 13 ≤ R.locals) (hroom : cells ≤ R.cells ∧ slots ≤ R.slots) (ra : iR a) (rb : iR b) (hd : decode cc pc = .ok (.invokestatic index, 3))
    (kk : wpw p l e R s m args below meth c A H0 nL Q D cl ws cells slots (pc + 3) lv (.int (zI (max a b)) :: st)) : wpw p l e R s m args below meth c A H0 nL Q D cl ws cells slots pc lv (.int (zI b) :: .int (zI a) :: st) := fun H locs ls hP hD hS hl => by
  refine va_mmax hC.1 hC.2.1 (by rw [hC.2.2.1]; exact hl.1.symm) hC.2.2.2.1 (hC.2.2.2.2.1 _ h1) (hC.2.2.2.2.1 _ h2) (hC.2.2.2.2.1 _ h3) (hC.2.2.2.2.1 _ h4) hf hlo hroom.1 hroom.2 hd ?_
  have e : (if zI a < zI b then zI b else zI a) = zI (max a b) := by
    by_cases h : a < b
    · rw [if_pos ((zI_lt ra rb).mpr h), Int.max_eq_right (by omega)]
    · rw [if_neg (fun q => h ((zI_lt ra rb).mp q)), Int.max_eq_left (by omega)]
  rw [e]
  exact kk H locs ls hP hD hS hl
theorem wpw_mmin {index : Nat} {a b : Int} (hC : Cw p s m args meth c A H0 nL D cl tys cc own Ts) (h1 : Cond.methodLink own index Lib.Math.min.name ∈ Ts) (h2 : Cond.static Lib.Math.min.name ∈ Ts) (h3 : Cond.initialized "java/lang/Math" ∈ Ts) (h4 : Cond.code Lib.Math.min.name Lib.Math.min.code 2 (some .int) ∈ Ts) (hf : 1 ≤ R.frames) (hlo : (st.map fun v => v.category).sum + 13 ≤ R.locals) (hroom : cells ≤ R.cells ∧ slots ≤ R.slots) (ra : iR a) (rb : iR b) (hd : decode cc pc = .ok (.invokestatic index, 3))
    (kk : wpw p l e R s m args below meth c A H0 nL Q D cl ws cells slots (pc + 3) lv (.int (zI (min a b)) :: st)) : wpw p l e R s m args below meth c A H0 nL Q D cl ws cells slots pc lv (.int (zI b) :: .int (zI a) :: st) := fun H locs ls hP hD hS hl => by
  refine va_mmin hC.1 hC.2.1 (by rw [hC.2.2.1]; exact hl.1.symm) hC.2.2.2.1 (hC.2.2.2.2.1 _ h1) (hC.2.2.2.2.1 _ h2) (hC.2.2.2.2.1 _ h3) (hC.2.2.2.2.1 _ h4) hf hlo hroom.1 hroom.2 hd ?_
  have e : (if zI a ≤ zI b then zI a else zI b) = zI (min a b) := by
    by_cases h : a ≤ b
    · rw [if_pos ((zI_le ra rb).mpr h), Int.min_eq_left h]
    · rw [if_neg (fun q => h ((zI_le ra rb).mp q)), Int.min_eq_right (by omega)]
  have e2 : (if zI b < zI a then zI b else zI a) = zI (min a b) := by
    by_cases h : b < a
    · rw [if_pos ((zI_lt rb ra).mpr h), Int.min_eq_right (by omega)]
    · rw [if_neg (fun q => h ((zI_lt rb ra).mp q)), Int.min_eq_left (by omega)]
  first | (rw [e]; exact kk H locs ls hP hD hS hl) | (rw [e2]; exact kk H locs ls hP hD hS hl)
end WPWm2
set_option maxHeartbeats 4000000 in
set_option maxRecDepth 100000 in
theorem x_J8_newLength_cabcc {l : Launch} {D : va_G} {cl : List vw_C} {tys : List (ClassId × FieldType)} {cB : ClassId} {Z : Ky} {X : va_W} {a b c1 : Int} (ha : 0 ≤ a ∧ a ≤ 1000) (hb : 0 ≤ b ∧ b ≤ 1000) (hc : 1 ≤ c1 ∧ c1 ≤ 2000) : MXi l yJ8_newLength_cabcc wsJ8_newLength_cabcc ({ frames := 1, cells := 0, slots := 0, locals := 14 } : Room) D cl tys cB Z [.int (zI (a)), .int (zI (b)), .int (zI (c1))] X (fun x X2 => (fun x => x = a + max b c1) x ∧ X2 = X) := by
  refine MXi.of (by decide +kernel) rfl rfl (Nat.le_of_ble_eq_true rfl) rfl ?_
  intro p e s m args below meth c Q hC hX hret
  refine wpw_iload_n hC dJ8_newLength_cabcc_0 rfl ?_
  refine wpw_iload_n hC dJ8_newLength_cabcc_1 rfl ?_
  refine wpw_iload_n hC dJ8_newLength_cabcc_2 rfl ?_
  refine wpw_mmax hC (by decide +kernel) (by decide +kernel) (by decide +kernel) (by decide +kernel) (Nat.le_of_ble_eq_true rfl) (Nat.le_of_ble_eq_true rfl) ⟨Nat.le_refl 0, Nat.le_refl 0⟩ (by omega) (by omega) dJ8_newLength_cabcc_3 ?_
  refine wpw_iadd hC dJ8_newLength_cabcc_6 ?_
  refine wpw_istore_n (lv2 := [(0, _), (1, _), (2, _), (3, _)]) hC dJ8_newLength_cabcc_7 rfl (by decide) ?_
  refine wpw_iconst hC dJ8_newLength_cabcc_8 ?_
  refine wpw_iload_n hC dJ8_newLength_cabcc_9 rfl ?_
  refine wpw_icmp_ge (tgt := 21) hC dJ8_newLength_cabcc_10 (by decide) (by omega) (by omega) (fun c_10 => ?_) (fun c_10 => ?_)
  · exfalso; omega
  · refine wpw_iload_n hC dJ8_newLength_cabcc_13 rfl ?_
    refine wpw_ldc (n := 2147483639) hC dJ8_newLength_cabcc_14 (by decide +kernel) ?_
    refine wpw_icmp_gt (tgt := 21) hC dJ8_newLength_cabcc_16 (by decide) (by omega) (by omega) (fun c_16 => ?_) (fun c_16 => ?_)
    · exfalso; omega
    · refine wpw_iload_n hC dJ8_newLength_cabcc_19 rfl ?_
      exact hret _ _ _ _ (by omega) rfl (⟨rfl, rfl⟩) dJ8_newLength_cabcc_20
