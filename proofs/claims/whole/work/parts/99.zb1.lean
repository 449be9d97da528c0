/-! the small constructors -/
abbrev tyk (K : Nat → ClassId) : List (ClassId × FieldType) := [(K 0, .int), (K 1, .char), (K 2, .long), (K 3, .array .int), (K 4, .object "PromiseMind$State")]
abbrev eI (K : Nat → ClassId) (n : Nat) : va_E := .inl (K 0, n, .inl (fun _ => zI 0))
abbrev eC (K : Nat → ClassId) (n : Nat) : va_E := .inl (K 1, n, .inl (fun _ => zI 0))
abbrev eJ (K : Nat → ClassId) (n : Nat) : va_E := .inl (K 2, n, .inr (.inl (fun _ => zL 0)))
/-- filled with one number -/
abbrev eV (K : Nat → ClassId) (n : Nat) (v : Int) : va_E := .inl (K 0, n, .inl (fun j => if j < n then zI v else zI 0))
abbrev bkC (K : Nat → ClassId) (a : Nat → Nat) : va_W := [(a 0, .inr (1, [.ref (a 1), .ref (a 2), .ref (a 3), .ref (a 4), .ref (a 5), .int (zI 0)])), (a 1, eI K 24), (a 2, eI K 24), (a 3, eI K 24), (a 4, eI K 24), (a 5, eI K 24)]
abbrev tpC (K : Nat → ClassId) (a : Nat → Nat) : va_W := [(a 0, .inr (8, [.ref (a 1), .int (zI 0), .int (zI 0), .int (zI 0)])), (a 1, eC K 100)]
abbrev spC (K : Nat → ClassId) (a : Nat → Nat) : va_W := [(a 0, .inr (7, [.ref (a 1), .ref (a 2)])), (a 1, eI K 2197), (a 2, eI K 39)]
abbrev flC (K : Nat → ClassId) (a : Nat → Nat) : va_W := [(a 0, .inr (2, [.ref (a 1), .ref (a 2), .ref (a 3), .ref (a 4), .ref (a 5), .int (zI 0), .int (zI 0)])), (a 1, eI K 8), (a 2, eI K 256), (a 3, eI K 256), (a 4, eI K 39), (a 5, eI K 4)]
abbrev shC (K : Nat → ClassId) (a : Nat → Nat) : va_W := [(a 0, .inr (5, [.ref (a 1), .ref (a 2)])), (a 1, eJ K 96), (a 2, eV K 4 (-1))]
abbrev prC (K : Nat → ClassId) (a : Nat → Nat) : va_W := [(a 0, .inr (4, [.ref (a 1), .int (zI 0)])), (a 1, eC K 32)]
abbrev stC (K : Nat → ClassId) (a : Nat → Nat) : va_W := [(a 0, .inr (6, [.ref (a 1), .ref (a 2), .ref (a 3), .ref (a 4), .int (zI 0)])), (a 1, eI K 36), (a 2, eV K 4 100), (a 3, eI K 24), (a 4, eI K 24)]

theorem hkSJ7_fill_53178 : yJ7_fill_53178.cls ≠ "java/lang/invoke/MethodHandle" ∧ yJ7_fill_53178.cls ≠ "java/lang/invoke/VarHandle" ∧ (parseMethodDescriptor yJ7_fill_53178.desc).map (fun d => d.parameters.length) = some 2 := by decide +kernel

theorem set_self_q {α : Type} : ∀ {X : List α} {i : Nat} {x : α}, X[i]? = some x → X.set i x = X
  | [], i, x, h => by cases i <;> cases h
  | y :: X, 0, x, h => by cases h; rfl
  | y :: X, i + 1, x, h => by
    show y :: X.set i x = y :: X
    rw [set_self_q (X := X) h]

set_option maxHeartbeats 4000000 in
set_option maxRecDepth 100000 in
theorem k_fill {l : Launch} {D : va_G} {K : Nat → ClassId} {X : va_W} {i a n : Nat} {f : Nat → Int32} {v : Int} (he : X[i]? = some (a, .inl (K 0, n, .inl f))) (hn : n ≤ 4000) : MKv l yJ7_fill_53178 wsJ7_fill_53178 ({ frames := 0, cells := 0, slots := 0, locals := 0 } : Room) D vwCl (tyk K) [.ref a, .int (zI v)] X (fun X2 => X2 = X.set i (a, .inl (K 0, n, .inl (fun j => if j < n then zI v else f j)))) := by
  refine MKv.of (by decide +kernel) rfl rfl (Nat.le_of_ble_eq_true rfl) rfl ?_
  intro p e s m args below meth c Q hC hin hN hret
  have l1 : i < X.length := (List.getElem?_eq_some_iff.mp he).1
  refine wpw_iconst hC dJ7_fill_53178_0 ?_
  refine wpw_istore_n (lv2 := [(0, _), (1, _), (2, _)]) hC dJ7_fill_53178_1 rfl (by decide) ?_
  refine wpw_aload_n hC dJ7_fill_53178_2 rfl ?_
  refine wpw_alen (t := 0) hC he rfl dJ7_fill_53178_3 ?_
  refine wpw_istore_n (lv2 := [(0, _), (1, _), (2, _), (3, _)]) hC dJ7_fill_53178_4 rfl (by decide) ?_
  have L5 : ∀ (z k : Nat), n - k = z → k ≤ n → wpw p l e ({ frames := 0, cells := 0, slots := 0, locals := 0 } : Room) s m args below meth c (va_A X s.heap.size) s.heap 4 Q D vwCl (X.set i (a, .inl (K 0, n, .inl (fun j => if j < k then zI v else f j)))) 0 0 5 [(0, .ref a), (1, .int (zI v)), (2, .int (zI k)), (3, .int (zI n))] [] := by
    intro z
    induction z with
    | zero =>
      intro k hk hkn
      obtain rfl : k = n := by omega
      refine wpw_iload_n hC dJ7_fill_53178_5 rfl ?_
      refine wpw_iload_n hC dJ7_fill_53178_6 rfl ?_
      refine wpw_icmp_ge (tgt := 20) hC dJ7_fill_53178_7 (by decide) ⟨by omega, by omega⟩ ⟨by omega, by omega⟩ (fun c_7 => ?_) (fun c_7 => absurd c_7 (by omega))
      exact hret _ _ _ rfl dJ7_fill_53178_20
    | succ z ih =>
      intro k hk hkn
      refine wpw_iload_n hC dJ7_fill_53178_5 rfl ?_
      refine wpw_iload_n hC dJ7_fill_53178_6 rfl ?_
      refine wpw_icmp_ge (tgt := 20) hC dJ7_fill_53178_7 (by decide) ⟨by omega, by omega⟩ ⟨by omega, by omega⟩ (fun c_7 => absurd c_7 (by omega)) (fun c_7 => ?_)
      refine wpw_aload_n hC dJ7_fill_53178_10 rfl ?_
      refine wpw_iload_n hC dJ7_fill_53178_11 rfl ?_
      refine wpw_iload_n hC dJ7_fill_53178_12 rfl ?_
      refine wpw_iast (t := 0) hC (List.getElem?_set_self l1) rfl hn ⟨by omega, by omega⟩ rfl dJ7_fill_53178_13 ?_
      refine wpw_iinc (lv2 := [(0, _), (1, _), (2, .int (zI ((k : Int) + 1))), (3, _)]) hC dJ7_fill_53178_14 rfl rfl (by decide) ?_
      refine wpw_goto (tgt := 5) hC dJ7_fill_53178_17 (by decide) ?_
      refine wpw_ws (ws2 := X.set i (a, .inl (K 0, n, .inl (fun j => if j < k + 1 then zI v else f j)))) ?_ (ih (k + 1) (by omega) (by omega))
      have e9 : upd (fun j => if j < k then zI v else f j) ((k : Int)).toNat (zI v) = (fun j => if j < k + 1 then zI v else f j) := by
       funext j
       unfold upd
       rw [Int.toNat_natCast]
       by_cases h1 : j = k
       · rw [if_pos h1, if_pos (by omega)]
       · rw [if_neg h1]
         show (if j < k then zI v else f j) = _
         by_cases h2 : j < k
         · rw [if_pos h2, if_pos (by omega)]
         · rw [if_neg h2, if_neg (by omega)]
      rw [List.set_set, e9]
  refine wpw_ws (ws2 := X.set i (a, .inl (K 0, n, .inl (fun j => if j < 0 then zI v else f j)))) ?_ (L5 n 0 (by omega) (by omega))
  have e0 : (fun j => if j < 0 then zI v else f j) = f := by
    funext j
    rw [if_neg (by omega)]
  rw [e0]
  exact (set_self_q he).symm

theorem hkIX0_init : yX0_init.name = "<init>" ∧ yX0_init.cls ≠ "java/lang/invoke/MethodHandle" ∧ yX0_init.cls ≠ "java/lang/invoke/VarHandle" ∧ (parseMethodDescriptor yX0_init.desc).map (fun d => d.parameters.length) = some 0 := by decide +kernel

set_option maxHeartbeats 4000000 in
set_option maxRecDepth 100000 in
theorem k_X0_init {l : Launch} {D : va_G} {K : Nat → ClassId} {q : Nat} : MKv l yX0_init wsX0_init ({ frames := 1, cells := 5, slots := 120, locals := 12 } : Room) D vwCl (tyk K) [.ref q] [(q, .inr (1, [.null, .null, .null, .null, .null, .int (zI 0)]))] (fun X2 => ∃ a : Nat → Nat, a 0 = q ∧ X2 = bkC K a) := by
  refine MKv.of (by decide +kernel) rfl rfl (Nat.le_of_ble_eq_true rfl) rfl ?_
  intro p e s m args below meth c Q hC hin hN hret
  refine wpw_aload_n hC dX0_init_0 rfl ?_
  refine wpw_objK hC (by decide +kernel) (by decide +kernel) (by decide +kernel) (Nat.le_of_ble_eq_true rfl) (Nat.le_of_ble_eq_true rfl) dX0_init_1 ?_
  refine wpw_aload_n hC dX0_init_4 rfl ?_
  refine wpw_bipush hC dX0_init_5 rfl ?_
  refine wpw_newI (t := 0) hC rfl ⟨by decide, by decide⟩ (by decide +kernel) (Nat.le_of_ble_eq_true rfl) (Nat.le_of_ble_eq_true rfl) dX0_init_7 (fun q_7 => ?_)
  refine wpw_putF (i := 0) (k := 0) (T := TX0) (ty := .array .int) hC hin rfl rfl (by decide) (by decide +kernel) (by decide +kernel) tyX0 tyX0_ok nmX0 rfl rfl rfl rfl rfl (Nat.le_of_ble_eq_true rfl) rfl dX0_init_9 ?_
  refine wpw_aload_n hC dX0_init_12 rfl ?_
  refine wpw_bipush hC dX0_init_13 rfl ?_
  refine wpw_newI (t := 0) hC rfl ⟨by decide, by decide⟩ (by decide +kernel) (Nat.le_of_ble_eq_true rfl) (Nat.le_of_ble_eq_true rfl) dX0_init_15 (fun q_15 => ?_)
  refine wpw_putF (i := 0) (k := 1) (T := TX0) (ty := .array .int) hC hin rfl rfl (by decide) (by decide +kernel) (by decide +kernel) tyX0 tyX0_ok nmX0 rfl rfl rfl rfl rfl (Nat.le_of_ble_eq_true rfl) rfl dX0_init_17 ?_
  refine wpw_aload_n hC dX0_init_20 rfl ?_
  refine wpw_bipush hC dX0_init_21 rfl ?_
  refine wpw_newI (t := 0) hC rfl ⟨by decide, by decide⟩ (by decide +kernel) (Nat.le_of_ble_eq_true rfl) (Nat.le_of_ble_eq_true rfl) dX0_init_23 (fun q_23 => ?_)
  refine wpw_putF (i := 0) (k := 2) (T := TX0) (ty := .array .int) hC hin rfl rfl (by decide) (by decide +kernel) (by decide +kernel) tyX0 tyX0_ok nmX0 rfl rfl rfl rfl rfl (Nat.le_of_ble_eq_true rfl) rfl dX0_init_25 ?_
  refine wpw_aload_n hC dX0_init_28 rfl ?_
  refine wpw_bipush hC dX0_init_29 rfl ?_
  refine wpw_newI (t := 0) hC rfl ⟨by decide, by decide⟩ (by decide +kernel) (Nat.le_of_ble_eq_true rfl) (Nat.le_of_ble_eq_true rfl) dX0_init_31 (fun q_31 => ?_)
  refine wpw_putF (i := 0) (k := 3) (T := TX0) (ty := .array .int) hC hin rfl rfl (by decide) (by decide +kernel) (by decide +kernel) tyX0 tyX0_ok nmX0 rfl rfl rfl rfl rfl (Nat.le_of_ble_eq_true rfl) rfl dX0_init_33 ?_
  refine wpw_aload_n hC dX0_init_36 rfl ?_
  refine wpw_bipush hC dX0_init_37 rfl ?_
  refine wpw_newI (t := 0) hC rfl ⟨by decide, by decide⟩ (by decide +kernel) (Nat.le_of_ble_eq_true rfl) (Nat.le_of_ble_eq_true rfl) dX0_init_39 (fun q_39 => ?_)
  refine wpw_putF (i := 0) (k := 4) (T := TX0) (ty := .array .int) hC hin rfl rfl (by decide) (by decide +kernel) (by decide +kernel) tyX0 tyX0_ok nmX0 rfl rfl rfl rfl rfl (Nat.le_of_ble_eq_true rfl) rfl dX0_init_41 ?_
  exact hret _ _ _ ⟨fun i => ([q, q_7, q_15, q_23, q_31, q_39] : List Nat).getD i 0, rfl, rfl⟩ dX0_init_44

theorem hkIX1_init : yX1_init.name = "<init>" ∧ yX1_init.cls ≠ "java/lang/invoke/MethodHandle" ∧ yX1_init.cls ≠ "java/lang/invoke/VarHandle" ∧ (parseMethodDescriptor yX1_init.desc).map (fun d => d.parameters.length) = some 0 := by decide +kernel

set_option maxHeartbeats 4000000 in
set_option maxRecDepth 100000 in
theorem k_X1_init {l : Launch} {D : va_G} {K : Nat → ClassId} {q : Nat} : MKv l yX1_init wsX1_init ({ frames := 1, cells := 5, slots := 563, locals := 12 } : Room) D vwCl (tyk K) [.ref q] [(q, .inr (2, [.null, .null, .null, .null, .null, .int (zI 0), .int (zI 0)]))] (fun X2 => ∃ a : Nat → Nat, a 0 = q ∧ X2 = flC K a) := by
  refine MKv.of (by decide +kernel) rfl rfl (Nat.le_of_ble_eq_true rfl) rfl ?_
  intro p e s m args below meth c Q hC hin hN hret
  refine wpw_aload_n hC dX1_init_0 rfl ?_
  refine wpw_objK hC (by decide +kernel) (by decide +kernel) (by decide +kernel) (Nat.le_of_ble_eq_true rfl) (Nat.le_of_ble_eq_true rfl) dX1_init_1 ?_
  refine wpw_aload_n hC dX1_init_4 rfl ?_
  refine wpw_bipush hC dX1_init_5 rfl ?_
  refine wpw_newI (t := 0) hC rfl ⟨by decide, by decide⟩ (by decide +kernel) (Nat.le_of_ble_eq_true rfl) (Nat.le_of_ble_eq_true rfl) dX1_init_7 (fun q_7 => ?_)
  refine wpw_putF (i := 0) (k := 0) (T := TX1) (ty := .array .int) hC hin rfl rfl (by decide) (by decide +kernel) (by decide +kernel) tyX1 tyX1_ok nmX1 rfl rfl rfl rfl rfl (Nat.le_of_ble_eq_true rfl) rfl dX1_init_9 ?_
  refine wpw_aload_n hC dX1_init_12 rfl ?_
  refine wpw_sipush hC dX1_init_13 rfl ?_
  refine wpw_newI (t := 0) hC rfl ⟨by decide, by decide⟩ (by decide +kernel) (Nat.le_of_ble_eq_true rfl) (Nat.le_of_ble_eq_true rfl) dX1_init_16 (fun q_16 => ?_)
  refine wpw_putF (i := 0) (k := 1) (T := TX1) (ty := .array .int) hC hin rfl rfl (by decide) (by decide +kernel) (by decide +kernel) tyX1 tyX1_ok nmX1 rfl rfl rfl rfl rfl (Nat.le_of_ble_eq_true rfl) rfl dX1_init_18 ?_
  refine wpw_aload_n hC dX1_init_21 rfl ?_
  refine wpw_sipush hC dX1_init_22 rfl ?_
  refine wpw_newI (t := 0) hC rfl ⟨by decide, by decide⟩ (by decide +kernel) (Nat.le_of_ble_eq_true rfl) (Nat.le_of_ble_eq_true rfl) dX1_init_25 (fun q_25 => ?_)
  refine wpw_putF (i := 0) (k := 2) (T := TX1) (ty := .array .int) hC hin rfl rfl (by decide) (by decide +kernel) (by decide +kernel) tyX1 tyX1_ok nmX1 rfl rfl rfl rfl rfl (Nat.le_of_ble_eq_true rfl) rfl dX1_init_27 ?_
  refine wpw_aload_n hC dX1_init_30 rfl ?_
  refine wpw_bipush hC dX1_init_31 rfl ?_
  refine wpw_newI (t := 0) hC rfl ⟨by decide, by decide⟩ (by decide +kernel) (Nat.le_of_ble_eq_true rfl) (Nat.le_of_ble_eq_true rfl) dX1_init_33 (fun q_33 => ?_)
  refine wpw_putF (i := 0) (k := 3) (T := TX1) (ty := .array .int) hC hin rfl rfl (by decide) (by decide +kernel) (by decide +kernel) tyX1 tyX1_ok nmX1 rfl rfl rfl rfl rfl (Nat.le_of_ble_eq_true rfl) rfl dX1_init_35 ?_
  refine wpw_aload_n hC dX1_init_38 rfl ?_
  refine wpw_iconst hC dX1_init_39 ?_
  refine wpw_newI (t := 0) hC rfl ⟨by decide, by decide⟩ (by decide +kernel) (Nat.le_of_ble_eq_true rfl) (Nat.le_of_ble_eq_true rfl) dX1_init_40 (fun q_40 => ?_)
  refine wpw_putF (i := 0) (k := 4) (T := TX1) (ty := .array .int) hC hin rfl rfl (by decide) (by decide +kernel) (by decide +kernel) tyX1 tyX1_ok nmX1 rfl rfl rfl rfl rfl (Nat.le_of_ble_eq_true rfl) rfl dX1_init_42 ?_
  exact hret _ _ _ ⟨fun i => ([q, q_7, q_16, q_25, q_33, q_40] : List Nat).getD i 0, rfl, rfl⟩ dX1_init_45

theorem hkIX3_init : yX3_init.name = "<init>" ∧ yX3_init.cls ≠ "java/lang/invoke/MethodHandle" ∧ yX3_init.cls ≠ "java/lang/invoke/VarHandle" ∧ (parseMethodDescriptor yX3_init.desc).map (fun d => d.parameters.length) = some 0 := by decide +kernel

set_option maxHeartbeats 4000000 in
set_option maxRecDepth 100000 in
theorem k_X3_init {l : Launch} {D : va_G} {K : Nat → ClassId} {q : Nat} : MKv l yX3_init wsX3_init ({ frames := 1, cells := 1, slots := 32, locals := 12 } : Room) D vwCl (tyk K) [.ref q] [(q, .inr (4, [.null, .int (zI 0)]))] (fun X2 => ∃ a : Nat → Nat, a 0 = q ∧ X2 = prC K a) := by
  refine MKv.of (by decide +kernel) rfl rfl (Nat.le_of_ble_eq_true rfl) rfl ?_
  intro p e s m args below meth c Q hC hin hN hret
  refine wpw_aload_n hC dX3_init_0 rfl ?_
  refine wpw_objK hC (by decide +kernel) (by decide +kernel) (by decide +kernel) (Nat.le_of_ble_eq_true rfl) (Nat.le_of_ble_eq_true rfl) dX3_init_1 ?_
  refine wpw_aload_n hC dX3_init_4 rfl ?_
  refine wpw_bipush hC dX3_init_5 rfl ?_
  refine wpw_newC (t := 1) hC rfl ⟨by decide, by decide⟩ (by decide +kernel) (Nat.le_of_ble_eq_true rfl) (Nat.le_of_ble_eq_true rfl) dX3_init_7 (fun q_7 => ?_)
  refine wpw_putF (i := 0) (k := 0) (T := TX3) (ty := .array .char) hC hin rfl rfl (by decide) (by decide +kernel) (by decide +kernel) tyX3 tyX3_ok nmX3 rfl rfl rfl rfl rfl (Nat.le_of_ble_eq_true rfl) rfl dX3_init_9 ?_
  exact hret _ _ _ ⟨fun i => ([q, q_7] : List Nat).getD i 0, rfl, rfl⟩ dX3_init_12

theorem hkIX6_init : yX6_init.name = "<init>" ∧ yX6_init.cls ≠ "java/lang/invoke/MethodHandle" ∧ yX6_init.cls ≠ "java/lang/invoke/VarHandle" ∧ (parseMethodDescriptor yX6_init.desc).map (fun d => d.parameters.length) = some 0 := by decide +kernel

set_option maxHeartbeats 4000000 in
set_option maxRecDepth 100000 in
theorem k_X6_init {l : Launch} {D : va_G} {K : Nat → ClassId} {q : Nat} : MKv l yX6_init wsX6_init ({ frames := 1, cells := 2, slots := 2236, locals := 12 } : Room) D vwCl (tyk K) [.ref q] [(q, .inr (7, [.null, .null]))] (fun X2 => ∃ a : Nat → Nat, a 0 = q ∧ X2 = spC K a) := by
  refine MKv.of (by decide +kernel) rfl rfl (Nat.le_of_ble_eq_true rfl) rfl ?_
  intro p e s m args below meth c Q hC hin hN hret
  refine wpw_aload_n hC dX6_init_0 rfl ?_
  refine wpw_objK hC (by decide +kernel) (by decide +kernel) (by decide +kernel) (Nat.le_of_ble_eq_true rfl) (Nat.le_of_ble_eq_true rfl) dX6_init_1 ?_
  refine wpw_aload_n hC dX6_init_4 rfl ?_
  refine wpw_sipush hC dX6_init_5 rfl ?_
  refine wpw_newI (t := 0) hC rfl ⟨by decide, by decide⟩ (by decide +kernel) (Nat.le_of_ble_eq_true rfl) (Nat.le_of_ble_eq_true rfl) dX6_init_8 (fun q_8 => ?_)
  refine wpw_putF (i := 0) (k := 0) (T := TX6) (ty := .array .int) hC hin rfl rfl (by decide) (by decide +kernel) (by decide +kernel) tyX6 tyX6_ok nmX6 rfl rfl rfl rfl rfl (Nat.le_of_ble_eq_true rfl) rfl dX6_init_10 ?_
  refine wpw_aload_n hC dX6_init_13 rfl ?_
  refine wpw_bipush hC dX6_init_14 rfl ?_
  refine wpw_newI (t := 0) hC rfl ⟨by decide, by decide⟩ (by decide +kernel) (Nat.le_of_ble_eq_true rfl) (Nat.le_of_ble_eq_true rfl) dX6_init_16 (fun q_16 => ?_)
  refine wpw_putF (i := 0) (k := 1) (T := TX6) (ty := .array .int) hC hin rfl rfl (by decide) (by decide +kernel) (by decide +kernel) tyX6 tyX6_ok nmX6 rfl rfl rfl rfl rfl (Nat.le_of_ble_eq_true rfl) rfl dX6_init_18 ?_
  exact hret _ _ _ ⟨fun i => ([q, q_8, q_16] : List Nat).getD i 0, rfl, rfl⟩ dX6_init_21

theorem hkIX7_init : yX7_init.name = "<init>" ∧ yX7_init.cls ≠ "java/lang/invoke/MethodHandle" ∧ yX7_init.cls ≠ "java/lang/invoke/VarHandle" ∧ (parseMethodDescriptor yX7_init.desc).map (fun d => d.parameters.length) = some 0 := by decide +kernel

set_option maxHeartbeats 4000000 in
set_option maxRecDepth 100000 in
theorem k_X7_init {l : Launch} {D : va_G} {K : Nat → ClassId} {q : Nat} : MKv l yX7_init wsX7_init ({ frames := 1, cells := 1, slots := 100, locals := 12 } : Room) D vwCl (tyk K) [.ref q] [(q, .inr (8, [.null, .int (zI 0), .int (zI 0), .int (zI 0)]))] (fun X2 => ∃ a : Nat → Nat, a 0 = q ∧ X2 = tpC K a) := by
  refine MKv.of (by decide +kernel) rfl rfl (Nat.le_of_ble_eq_true rfl) rfl ?_
  intro p e s m args below meth c Q hC hin hN hret
  refine wpw_aload_n hC dX7_init_0 rfl ?_
  refine wpw_objK hC (by decide +kernel) (by decide +kernel) (by decide +kernel) (Nat.le_of_ble_eq_true rfl) (Nat.le_of_ble_eq_true rfl) dX7_init_1 ?_
  refine wpw_aload_n hC dX7_init_4 rfl ?_
  refine wpw_bipush hC dX7_init_5 rfl ?_
  refine wpw_newC (t := 1) hC rfl ⟨by decide, by decide⟩ (by decide +kernel) (Nat.le_of_ble_eq_true rfl) (Nat.le_of_ble_eq_true rfl) dX7_init_7 (fun q_7 => ?_)
  refine wpw_putF (i := 0) (k := 0) (T := TX7) (ty := .array .char) hC hin rfl rfl (by decide) (by decide +kernel) (by decide +kernel) tyX7 tyX7_ok nmX7 rfl rfl rfl rfl rfl (Nat.le_of_ble_eq_true rfl) rfl dX7_init_9 ?_
  exact hret _ _ _ ⟨fun i => ([q, q_7] : List Nat).getD i 0, rfl, rfl⟩ dX7_init_12

theorem hkIX4_init : yX4_init.name = "<init>" ∧ yX4_init.cls ≠ "java/lang/invoke/MethodHandle" ∧ yX4_init.cls ≠ "java/lang/invoke/VarHandle" ∧ (parseMethodDescriptor yX4_init.desc).map (fun d => d.parameters.length) = some 0 := by decide +kernel

set_option maxHeartbeats 4000000 in
set_option maxRecDepth 100000 in
theorem k_X4_init {l : Launch} {D : va_G} {K : Nat → ClassId} {q : Nat} : MKv l yX4_init wsX4_init ({ frames := 1, cells := 2, slots := 100, locals := 40 } : Room) D vwCl (tyk K) [.ref q] [(q, .inr (5, [.null, .null]))] (fun X2 => ∃ a : Nat → Nat, a 0 = q ∧ X2 = shC K a) := by
  refine MKv.of (by decide +kernel) rfl rfl (Nat.le_of_ble_eq_true rfl) rfl ?_
  intro p e s m args below meth c Q hC hin hN hret
  refine wpw_aload_n hC dX4_init_0 rfl ?_
  refine wpw_objK hC (by decide +kernel) (by decide +kernel) (by decide +kernel) (Nat.le_of_ble_eq_true rfl) (Nat.le_of_ble_eq_true rfl) dX4_init_1 ?_
  refine wpw_aload_n hC dX4_init_4 rfl ?_
  refine wpw_bipush hC dX4_init_5 rfl ?_
  refine wpw_newJ (t := 2) hC rfl ⟨by decide, by decide⟩ (by decide +kernel) (Nat.le_of_ble_eq_true rfl) (Nat.le_of_ble_eq_true rfl) dX4_init_7 (fun q_7 => ?_)
  refine wpw_putF (i := 0) (k := 0) (T := TX4) (ty := .array .long) hC hin rfl rfl (by decide) (by decide +kernel) (by decide +kernel) tyX4 tyX4_ok nmX4 rfl rfl rfl rfl rfl (Nat.le_of_ble_eq_true rfl) rfl dX4_init_9 ?_
  refine wpw_aload_n hC dX4_init_12 rfl ?_
  refine wpw_iconst hC dX4_init_13 ?_
  refine wpw_newI (t := 0) hC rfl ⟨by decide, by decide⟩ (by decide +kernel) (Nat.le_of_ble_eq_true rfl) (Nat.le_of_ble_eq_true rfl) dX4_init_14 (fun q_14 => ?_)
  refine wpw_putF (i := 0) (k := 1) (T := TX4) (ty := .array .int) hC hin rfl rfl (by decide) (by decide +kernel) (by decide +kernel) tyX4 tyX4_ok nmX4 rfl rfl rfl rfl rfl (Nat.le_of_ble_eq_true rfl) rfl dX4_init_16 ?_
  refine wpw_aload_n hC dX4_init_19 rfl ?_
  refine wpw_get (i := 0) (k := 1) (T := TX4) hC rfl rfl (by decide) (by decide +kernel) (by decide +kernel) rfl dX4_init_20 ?_
  refine wpw_iconst hC dX4_init_23 ?_
  refine wpw_callKS (V := []) (As := [_, _]) hC hN (k_fill (i := 2) rfl (by decide)) gX4_init_J7_fill_53178 rfl ⟨by decide, by decide⟩ ⟨by decide, by decide⟩ hkSJ7_fill_53178 rfl rfl (Nat.le_of_ble_eq_true rfl) dX4_init_24 (fun Y_24 hp_24 => ?_)
  subst hp_24
  exact hret _ _ _ ⟨fun i => ([q, q_7, q_14] : List Nat).getD i 0, rfl, rfl⟩ dX4_init_27

theorem hkIX5_init : yX5_init.name = "<init>" ∧ yX5_init.cls ≠ "java/lang/invoke/MethodHandle" ∧ yX5_init.cls ≠ "java/lang/invoke/VarHandle" ∧ (parseMethodDescriptor yX5_init.desc).map (fun d => d.parameters.length) = some 0 := by decide +kernel

set_option maxHeartbeats 4000000 in
set_option maxRecDepth 100000 in
theorem k_X5_init {l : Launch} {D : va_G} {K : Nat → ClassId} {q : Nat} : MKv l yX5_init wsX5_init ({ frames := 1, cells := 4, slots := 88, locals := 40 } : Room) D vwCl (tyk K) [.ref q] [(q, .inr (6, [.null, .null, .null, .null, .int (zI 0)]))] (fun X2 => ∃ a : Nat → Nat, a 0 = q ∧ X2 = stC K a) := by
  refine MKv.of (by decide +kernel) rfl rfl (Nat.le_of_ble_eq_true rfl) rfl ?_
  intro p e s m args below meth c Q hC hin hN hret
  refine wpw_aload_n hC dX5_init_0 rfl ?_
  refine wpw_objK hC (by decide +kernel) (by decide +kernel) (by decide +kernel) (Nat.le_of_ble_eq_true rfl) (Nat.le_of_ble_eq_true rfl) dX5_init_1 ?_
  refine wpw_aload_n hC dX5_init_4 rfl ?_
  refine wpw_bipush hC dX5_init_5 rfl ?_
  refine wpw_newI (t := 0) hC rfl ⟨by decide, by decide⟩ (by decide +kernel) (Nat.le_of_ble_eq_true rfl) (Nat.le_of_ble_eq_true rfl) dX5_init_7 (fun q_7 => ?_)
  refine wpw_putF (i := 0) (k := 0) (T := TX5) (ty := .array .int) hC hin rfl rfl (by decide) (by decide +kernel) (by decide +kernel) tyX5 tyX5_ok nmX5 rfl rfl rfl rfl rfl (Nat.le_of_ble_eq_true rfl) rfl dX5_init_9 ?_
  refine wpw_aload_n hC dX5_init_12 rfl ?_
  refine wpw_iconst hC dX5_init_13 ?_
  refine wpw_newI (t := 0) hC rfl ⟨by decide, by decide⟩ (by decide +kernel) (Nat.le_of_ble_eq_true rfl) (Nat.le_of_ble_eq_true rfl) dX5_init_14 (fun q_14 => ?_)
  refine wpw_putF (i := 0) (k := 1) (T := TX5) (ty := .array .int) hC hin rfl rfl (by decide) (by decide +kernel) (by decide +kernel) tyX5 tyX5_ok nmX5 rfl rfl rfl rfl rfl (Nat.le_of_ble_eq_true rfl) rfl dX5_init_16 ?_
  refine wpw_aload_n hC dX5_init_19 rfl ?_
  refine wpw_bipush hC dX5_init_20 rfl ?_
  refine wpw_newI (t := 0) hC rfl ⟨by decide, by decide⟩ (by decide +kernel) (Nat.le_of_ble_eq_true rfl) (Nat.le_of_ble_eq_true rfl) dX5_init_22 (fun q_22 => ?_)
  refine wpw_putF (i := 0) (k := 2) (T := TX5) (ty := .array .int) hC hin rfl rfl (by decide) (by decide +kernel) (by decide +kernel) tyX5 tyX5_ok nmX5 rfl rfl rfl rfl rfl (Nat.le_of_ble_eq_true rfl) rfl dX5_init_24 ?_
  refine wpw_aload_n hC dX5_init_27 rfl ?_
  refine wpw_bipush hC dX5_init_28 rfl ?_
  refine wpw_newI (t := 0) hC rfl ⟨by decide, by decide⟩ (by decide +kernel) (Nat.le_of_ble_eq_true rfl) (Nat.le_of_ble_eq_true rfl) dX5_init_30 (fun q_30 => ?_)
  refine wpw_putF (i := 0) (k := 3) (T := TX5) (ty := .array .int) hC hin rfl rfl (by decide) (by decide +kernel) (by decide +kernel) tyX5 tyX5_ok nmX5 rfl rfl rfl rfl rfl (Nat.le_of_ble_eq_true rfl) rfl dX5_init_32 ?_
  refine wpw_aload_n hC dX5_init_35 rfl ?_
  refine wpw_get (i := 0) (k := 1) (T := TX5) hC rfl rfl (by decide) (by decide +kernel) (by decide +kernel) rfl dX5_init_36 ?_
  refine wpw_bipush hC dX5_init_39 rfl ?_
  refine wpw_callKS (V := []) (As := [_, _]) hC hN (k_fill (i := 2) rfl (by decide)) gX5_init_J7_fill_53178 rfl ⟨by decide, by decide⟩ ⟨by decide, by decide⟩ hkSJ7_fill_53178 rfl rfl (Nat.le_of_ble_eq_true rfl) dX5_init_41 (fun Y_41 hp_41 => ?_)
  subst hp_41
  exact hret _ _ _ ⟨fun i => ([q, q_7, q_14, q_22, q_30] : List Nat).getD i 0, rfl, rfl⟩ dX5_init_44
