theorem hkIX9_init : yX9_init.name = "<init>" ∧ yX9_init.cls ≠ "java/lang/invoke/MethodHandle" ∧ yX9_init.cls ≠ "java/lang/invoke/VarHandle" ∧ (parseMethodDescriptor yX9_init.desc).map (fun d => d.parameters.length) = some 0 := by decide +kernel

set_option maxHeartbeats 16000000 in
set_option maxRecDepth 100000 in
theorem k_X9_init {l : Launch} {D : va_G} {K : Nat → ClassId} (hm : MNAq) {q : Nat} : MKv l yX9_init wsX9_init ({ frames := 1, cells := 81, slots := 3856, locals := 12 } : Room) D vwCl (tyk K) [.ref q] [(q, .inr (10, [.null, .null, .null, .null, .null, .int (zI 0), .null, .null, .null, .null, .int (zI 0), .int (zI 0), .null, .int (zI 0), .int (zI 0), .int (zI 0), .null, .null, .int (zI 0), .int (zI 0), .int (zI 0), .null, .null, .null, .null, .null, .null, .int (zI 0), .int (zI 0), .int (zI 0), .null, .int (zI 0), .int (zI 0), .null, .null]))] (fun X2 => ∃ (a r1 r2 r3 : Nat → Nat), a 0 = q ∧ X2 = (a 0, .inr (10, [.ref (a 1), .ref (a 2), .ref (a 3), .ref (a 4), .ref (a 5), .int (zI 0), .ref (a 6), .ref (a 7), .ref (a 8), .ref (a 9), .int (zI 0), .int (zI 0), .ref (a 10), .int (zI (-1)), .int (zI 0), .int (zI 0), .ref (a 11), .ref (a 12), .int (zI 0), .int (zI 0), .int (zI 0), .ref (a 13), .ref (a 14), .ref (a 15), .ref (a 16), .ref (a 17), .ref (a 18), .int (zI 0), .int (zI 0), .int (zI 0), .ref (a 19), .int (zI 0), .int (zI 0), .ref (a 20), .ref (a 21)])) :: (a 1, .inl (K 0, 88, .inl (upd (upd (upd (upd (fun _ => zI 0) 36 (zI 100)) 37 (zI 100)) 38 (zI 100)) 39 (zI 100)))) :: (a 21, .inl (K 0, 4, .inl (upd (upd (upd (upd (fun _ => zI 0) 0 (zI (-1))) 1 (zI (-1))) 2 (zI (-1))) 3 (zI (-1))))) :: ([] ++ [(a 2, eI K 24)] ++ [(a 3, eI K 24)] ++ [(a 4, eI K 24)] ++ [(a 5, eI K 24)] ++ ([(a 6, (.inl (K 3, 12, .inr (.inr (.inr (.inr (fun j => some (r1 j)))))) : va_E))] ++ (List.range 12).map (fun j => (r1 j, eI K 88))) ++ ([(a 7, (.inl (K 3, 12, .inr (.inr (.inr (.inr (fun j => some (r2 j)))))) : va_E))] ++ (List.range 12).map (fun j => (r2 j, eI K 88))) ++ [(a 8, eI K 12)] ++ [(a 9, eI K 88)] ++ [(a 10, eI K 88)] ++ [(a 11, eI K 39)] ++ [(a 12, eI K 100)] ++ [(a 13, eI K 5)] ++ ([(a 14, (.inl (K 3, 36, .inr (.inr (.inr (.inr (fun j => some (r3 j)))))) : va_E))] ++ (List.range 36).map (fun j => (r3 j, eI K 24))) ++ [(a 15, eI K 36)] ++ [(a 16, eI K 24)] ++ [(a 17, eI K 60)] ++ [(a 18, eI K 60)] ++ [(a 19, eI K 24)] ++ [(a 20, eJ K 96)])) := by
  refine MKv.of (by decide +kernel) rfl rfl (Nat.le_of_ble_eq_true rfl) rfl ?_
  intro p e s m args below meth c Q hC hin hN hret
  refine wpw_aload_n hC dX9_init_0 rfl ?_
  refine wpw_objK hC (by decide +kernel) (by decide +kernel) (by decide +kernel) (Nat.le_of_ble_eq_true rfl) (Nat.le_of_ble_eq_true rfl) dX9_init_1 ?_
  refine wpw_aload_n hC dX9_init_4 rfl ?_
  refine wpw_bipush hC dX9_init_5 rfl ?_
  refine wpw_newI (t := 0) hC rfl ⟨by decide, by decide⟩ (by decide +kernel) (Nat.le_of_ble_eq_true rfl) (Nat.le_of_ble_eq_true rfl) dX9_init_7 (fun q_7 => ?_)
  refine wpw_ws (ws2 := (q, .inr (10, [.null, .null, .null, .null, .null, .int (zI 0), .null, .null, .null, .null, .int (zI 0), .int (zI 0), .null, .int (zI 0), .int (zI 0), .int (zI 0), .null, .null, .int (zI 0), .int (zI 0), .int (zI 0), .null, .null, .null, .null, .null, .null, .int (zI 0), .int (zI 0), .int (zI 0), .null, .int (zI 0), .int (zI 0), .null, .null])) :: (q_7, eI K 88) :: []) rfl ?_
  obtain ⟨U0, hU0⟩ : ∃ U0 : va_W, U0 = [] := ⟨_, rfl⟩
  refine wpw_putF (i := 0) (k := 0) (T := TX9) (ty := .array .int) (ws2 := (q, .inr (10, [.ref q_7, .null, .null, .null, .null, .int (zI 0), .null, .null, .null, .null, .int (zI 0), .int (zI 0), .null, .int (zI 0), .int (zI 0), .int (zI 0), .null, .null, .int (zI 0), .int (zI 0), .int (zI 0), .null, .null, .null, .null, .null, .null, .int (zI 0), .int (zI 0), .int (zI 0), .null, .int (zI 0), .int (zI 0), .null, .null])) :: (q_7, eI K 88) :: []) hC hin rfl rfl (by decide) (by decide +kernel) (by decide +kernel) tyX9 tyX9_ok nmX9 rfl rfl rfl rfl rfl (Nat.le_of_ble_eq_true rfl) rfl dX9_init_9 ?_
  refine wpw_ws (ws2 := (q, .inr (10, [.ref q_7, .null, .null, .null, .null, .int (zI 0), .null, .null, .null, .null, .int (zI 0), .int (zI 0), .null, .int (zI 0), .int (zI 0), .int (zI 0), .null, .null, .int (zI 0), .int (zI 0), .int (zI 0), .null, .null, .null, .null, .null, .null, .int (zI 0), .int (zI 0), .int (zI 0), .null, .int (zI 0), .int (zI 0), .null, .null])) :: (q_7, eI K 88) :: U0) (by rw [hU0]) ?_
  refine wpw_aload_n hC dX9_init_12 rfl ?_
  refine wpw_bipush hC dX9_init_13 rfl ?_
  refine wpw_newI (t := 0) hC rfl ⟨by decide, by decide⟩ (by decide +kernel) (Nat.le_of_ble_eq_true rfl) (Nat.le_of_ble_eq_true rfl) dX9_init_15 (fun q_15 => ?_)
  obtain ⟨U2, hU2⟩ : ∃ U2 : va_W, U2 = U0 ++ [(q_15, eI K 24)] := ⟨_, rfl⟩
  refine wpw_ws (ws2 := (q, .inr (10, [.ref q_7, .null, .null, .null, .null, .int (zI 0), .null, .null, .null, .null, .int (zI 0), .int (zI 0), .null, .int (zI 0), .int (zI 0), .int (zI 0), .null, .null, .int (zI 0), .int (zI 0), .int (zI 0), .null, .null, .null, .null, .null, .null, .int (zI 0), .int (zI 0), .int (zI 0), .null, .int (zI 0), .int (zI 0), .null, .null])) :: (q_7, eI K 88) :: U2) (by rw [hU2]; rfl) ?_
  refine wpw_putF (i := 0) (k := 1) (T := TX9) (ty := .array .int) (ws2 := (q, .inr (10, [.ref q_7, .ref q_15, .null, .null, .null, .int (zI 0), .null, .null, .null, .null, .int (zI 0), .int (zI 0), .null, .int (zI 0), .int (zI 0), .int (zI 0), .null, .null, .int (zI 0), .int (zI 0), .int (zI 0), .null, .null, .null, .null, .null, .null, .int (zI 0), .int (zI 0), .int (zI 0), .null, .int (zI 0), .int (zI 0), .null, .null])) :: (q_7, eI K 88) :: U2) hC hin rfl rfl (by decide) (by decide +kernel) (by decide +kernel) tyX9 tyX9_ok nmX9 rfl rfl rfl rfl rfl (Nat.le_of_ble_eq_true rfl) rfl dX9_init_17 ?_
  refine wpw_aload_n hC dX9_init_20 rfl ?_
  refine wpw_bipush hC dX9_init_21 rfl ?_
  refine wpw_newI (t := 0) hC rfl ⟨by decide, by decide⟩ (by decide +kernel) (Nat.le_of_ble_eq_true rfl) (Nat.le_of_ble_eq_true rfl) dX9_init_23 (fun q_23 => ?_)
  obtain ⟨U3, hU3⟩ : ∃ U3 : va_W, U3 = U2 ++ [(q_23, eI K 24)] := ⟨_, rfl⟩
  refine wpw_ws (ws2 := (q, .inr (10, [.ref q_7, .ref q_15, .null, .null, .null, .int (zI 0), .null, .null, .null, .null, .int (zI 0), .int (zI 0), .null, .int (zI 0), .int (zI 0), .int (zI 0), .null, .null, .int (zI 0), .int (zI 0), .int (zI 0), .null, .null, .null, .null, .null, .null, .int (zI 0), .int (zI 0), .int (zI 0), .null, .int (zI 0), .int (zI 0), .null, .null])) :: (q_7, eI K 88) :: U3) (by rw [hU3]; rfl) ?_
  refine wpw_putF (i := 0) (k := 2) (T := TX9) (ty := .array .int) (ws2 := (q, .inr (10, [.ref q_7, .ref q_15, .ref q_23, .null, .null, .int (zI 0), .null, .null, .null, .null, .int (zI 0), .int (zI 0), .null, .int (zI 0), .int (zI 0), .int (zI 0), .null, .null, .int (zI 0), .int (zI 0), .int (zI 0), .null, .null, .null, .null, .null, .null, .int (zI 0), .int (zI 0), .int (zI 0), .null, .int (zI 0), .int (zI 0), .null, .null])) :: (q_7, eI K 88) :: U3) hC hin rfl rfl (by decide) (by decide +kernel) (by decide +kernel) tyX9 tyX9_ok nmX9 rfl rfl rfl rfl rfl (Nat.le_of_ble_eq_true rfl) rfl dX9_init_25 ?_
  refine wpw_aload_n hC dX9_init_28 rfl ?_
  refine wpw_bipush hC dX9_init_29 rfl ?_
  refine wpw_newI (t := 0) hC rfl ⟨by decide, by decide⟩ (by decide +kernel) (Nat.le_of_ble_eq_true rfl) (Nat.le_of_ble_eq_true rfl) dX9_init_31 (fun q_31 => ?_)
  obtain ⟨U4, hU4⟩ : ∃ U4 : va_W, U4 = U3 ++ [(q_31, eI K 24)] := ⟨_, rfl⟩
  refine wpw_ws (ws2 := (q, .inr (10, [.ref q_7, .ref q_15, .ref q_23, .null, .null, .int (zI 0), .null, .null, .null, .null, .int (zI 0), .int (zI 0), .null, .int (zI 0), .int (zI 0), .int (zI 0), .null, .null, .int (zI 0), .int (zI 0), .int (zI 0), .null, .null, .null, .null, .null, .null, .int (zI 0), .int (zI 0), .int (zI 0), .null, .int (zI 0), .int (zI 0), .null, .null])) :: (q_7, eI K 88) :: U4) (by rw [hU4]; rfl) ?_
  refine wpw_putF (i := 0) (k := 3) (T := TX9) (ty := .array .int) (ws2 := (q, .inr (10, [.ref q_7, .ref q_15, .ref q_23, .ref q_31, .null, .int (zI 0), .null, .null, .null, .null, .int (zI 0), .int (zI 0), .null, .int (zI 0), .int (zI 0), .int (zI 0), .null, .null, .int (zI 0), .int (zI 0), .int (zI 0), .null, .null, .null, .null, .null, .null, .int (zI 0), .int (zI 0), .int (zI 0), .null, .int (zI 0), .int (zI 0), .null, .null])) :: (q_7, eI K 88) :: U4) hC hin rfl rfl (by decide) (by decide +kernel) (by decide +kernel) tyX9 tyX9_ok nmX9 rfl rfl rfl rfl rfl (Nat.le_of_ble_eq_true rfl) rfl dX9_init_33 ?_
  refine wpw_aload_n hC dX9_init_36 rfl ?_
  refine wpw_bipush hC dX9_init_37 rfl ?_
  refine wpw_newI (t := 0) hC rfl ⟨by decide, by decide⟩ (by decide +kernel) (Nat.le_of_ble_eq_true rfl) (Nat.le_of_ble_eq_true rfl) dX9_init_39 (fun q_39 => ?_)
  obtain ⟨U5, hU5⟩ : ∃ U5 : va_W, U5 = U4 ++ [(q_39, eI K 24)] := ⟨_, rfl⟩
  refine wpw_ws (ws2 := (q, .inr (10, [.ref q_7, .ref q_15, .ref q_23, .ref q_31, .null, .int (zI 0), .null, .null, .null, .null, .int (zI 0), .int (zI 0), .null, .int (zI 0), .int (zI 0), .int (zI 0), .null, .null, .int (zI 0), .int (zI 0), .int (zI 0), .null, .null, .null, .null, .null, .null, .int (zI 0), .int (zI 0), .int (zI 0), .null, .int (zI 0), .int (zI 0), .null, .null])) :: (q_7, eI K 88) :: U5) (by rw [hU5]; rfl) ?_
  refine wpw_putF (i := 0) (k := 4) (T := TX9) (ty := .array .int) (ws2 := (q, .inr (10, [.ref q_7, .ref q_15, .ref q_23, .ref q_31, .ref q_39, .int (zI 0), .null, .null, .null, .null, .int (zI 0), .int (zI 0), .null, .int (zI 0), .int (zI 0), .int (zI 0), .null, .null, .int (zI 0), .int (zI 0), .int (zI 0), .null, .null, .null, .null, .null, .null, .int (zI 0), .int (zI 0), .int (zI 0), .null, .int (zI 0), .int (zI 0), .null, .null])) :: (q_7, eI K 88) :: U5) hC hin rfl rfl (by decide) (by decide +kernel) (by decide +kernel) tyX9 tyX9_ok nmX9 rfl rfl rfl rfl rfl (Nat.le_of_ble_eq_true rfl) rfl dX9_init_41 ?_
  refine wpw_aload_n hC dX9_init_44 rfl ?_
  refine wpw_bipush hC dX9_init_45 rfl ?_
  refine wpw_bipush hC dX9_init_47 rfl ?_
  refine wpw_mna hm (t1 := 3) (t2 := 0) hC hN.2.2 rfl rfl ⟨by decide, by decide⟩ ⟨by decide, by decide⟩ (by decide +kernel) (by decide +kernel) (Nat.le_of_ble_eq_true rfl) (Nat.le_of_ble_eq_true rfl) dX9_init_49 (fun q_49 r_49 => ?_)
  obtain ⟨U6, hU6⟩ : ∃ U6 : va_W, U6 = U5 ++ ([(q_49, (.inl (K 3, 12, .inr (.inr (.inr (.inr (fun j => some (r_49 j)))))) : va_E))] ++ (List.range 12).map (fun j => (r_49 j, eI K 88))) := ⟨_, rfl⟩
  refine wpw_ws (ws2 := (q, .inr (10, [.ref q_7, .ref q_15, .ref q_23, .ref q_31, .ref q_39, .int (zI 0), .null, .null, .null, .null, .int (zI 0), .int (zI 0), .null, .int (zI 0), .int (zI 0), .int (zI 0), .null, .null, .int (zI 0), .int (zI 0), .int (zI 0), .null, .null, .null, .null, .null, .null, .int (zI 0), .int (zI 0), .int (zI 0), .null, .int (zI 0), .int (zI 0), .null, .null])) :: (q_7, eI K 88) :: U6) (by rw [hU6]; rfl) ?_
  refine wpw_putF (i := 0) (k := 6) (T := TX9) (ty := .array (.array .int)) (ws2 := (q, .inr (10, [.ref q_7, .ref q_15, .ref q_23, .ref q_31, .ref q_39, .int (zI 0), .ref q_49, .null, .null, .null, .int (zI 0), .int (zI 0), .null, .int (zI 0), .int (zI 0), .int (zI 0), .null, .null, .int (zI 0), .int (zI 0), .int (zI 0), .null, .null, .null, .null, .null, .null, .int (zI 0), .int (zI 0), .int (zI 0), .null, .int (zI 0), .int (zI 0), .null, .null])) :: (q_7, eI K 88) :: U6) hC hin rfl rfl (by decide) (by decide +kernel) (by decide +kernel) tyX9 tyX9_ok nmX9 rfl rfl rfl rfl rfl (Nat.le_of_ble_eq_true rfl) rfl dX9_init_53 ?_
  refine wpw_aload_n hC dX9_init_56 rfl ?_
  refine wpw_bipush hC dX9_init_57 rfl ?_
  refine wpw_bipush hC dX9_init_59 rfl ?_
  refine wpw_mna hm (t1 := 3) (t2 := 0) hC hN.2.2 rfl rfl ⟨by decide, by decide⟩ ⟨by decide, by decide⟩ (by decide +kernel) (by decide +kernel) (Nat.le_of_ble_eq_true rfl) (Nat.le_of_ble_eq_true rfl) dX9_init_61 (fun q_61 r_61 => ?_)
  obtain ⟨U7, hU7⟩ : ∃ U7 : va_W, U7 = U6 ++ ([(q_61, (.inl (K 3, 12, .inr (.inr (.inr (.inr (fun j => some (r_61 j)))))) : va_E))] ++ (List.range 12).map (fun j => (r_61 j, eI K 88))) := ⟨_, rfl⟩
  refine wpw_ws (ws2 := (q, .inr (10, [.ref q_7, .ref q_15, .ref q_23, .ref q_31, .ref q_39, .int (zI 0), .ref q_49, .null, .null, .null, .int (zI 0), .int (zI 0), .null, .int (zI 0), .int (zI 0), .int (zI 0), .null, .null, .int (zI 0), .int (zI 0), .int (zI 0), .null, .null, .null, .null, .null, .null, .int (zI 0), .int (zI 0), .int (zI 0), .null, .int (zI 0), .int (zI 0), .null, .null])) :: (q_7, eI K 88) :: U7) (by rw [hU7]; rfl) ?_
  refine wpw_putF (i := 0) (k := 7) (T := TX9) (ty := .array (.array .int)) (ws2 := (q, .inr (10, [.ref q_7, .ref q_15, .ref q_23, .ref q_31, .ref q_39, .int (zI 0), .ref q_49, .ref q_61, .null, .null, .int (zI 0), .int (zI 0), .null, .int (zI 0), .int (zI 0), .int (zI 0), .null, .null, .int (zI 0), .int (zI 0), .int (zI 0), .null, .null, .null, .null, .null, .null, .int (zI 0), .int (zI 0), .int (zI 0), .null, .int (zI 0), .int (zI 0), .null, .null])) :: (q_7, eI K 88) :: U7) hC hin rfl rfl (by decide) (by decide +kernel) (by decide +kernel) tyX9 tyX9_ok nmX9 rfl rfl rfl rfl rfl (Nat.le_of_ble_eq_true rfl) rfl dX9_init_65 ?_
  refine wpw_aload_n hC dX9_init_68 rfl ?_
  refine wpw_bipush hC dX9_init_69 rfl ?_
  refine wpw_newI (t := 0) hC rfl ⟨by decide, by decide⟩ (by decide +kernel) (Nat.le_of_ble_eq_true rfl) (Nat.le_of_ble_eq_true rfl) dX9_init_71 (fun q_71 => ?_)
  obtain ⟨U8, hU8⟩ : ∃ U8 : va_W, U8 = U7 ++ [(q_71, eI K 12)] := ⟨_, rfl⟩
  refine wpw_ws (ws2 := (q, .inr (10, [.ref q_7, .ref q_15, .ref q_23, .ref q_31, .ref q_39, .int (zI 0), .ref q_49, .ref q_61, .null, .null, .int (zI 0), .int (zI 0), .null, .int (zI 0), .int (zI 0), .int (zI 0), .null, .null, .int (zI 0), .int (zI 0), .int (zI 0), .null, .null, .null, .null, .null, .null, .int (zI 0), .int (zI 0), .int (zI 0), .null, .int (zI 0), .int (zI 0), .null, .null])) :: (q_7, eI K 88) :: U8) (by rw [hU8]; rfl) ?_
  refine wpw_putF (i := 0) (k := 8) (T := TX9) (ty := .array .int) (ws2 := (q, .inr (10, [.ref q_7, .ref q_15, .ref q_23, .ref q_31, .ref q_39, .int (zI 0), .ref q_49, .ref q_61, .ref q_71, .null, .int (zI 0), .int (zI 0), .null, .int (zI 0), .int (zI 0), .int (zI 0), .null, .null, .int (zI 0), .int (zI 0), .int (zI 0), .null, .null, .null, .null, .null, .null, .int (zI 0), .int (zI 0), .int (zI 0), .null, .int (zI 0), .int (zI 0), .null, .null])) :: (q_7, eI K 88) :: U8) hC hin rfl rfl (by decide) (by decide +kernel) (by decide +kernel) tyX9 tyX9_ok nmX9 rfl rfl rfl rfl rfl (Nat.le_of_ble_eq_true rfl) rfl dX9_init_73 ?_
  refine wpw_aload_n hC dX9_init_76 rfl ?_
  refine wpw_bipush hC dX9_init_77 rfl ?_
  refine wpw_newI (t := 0) hC rfl ⟨by decide, by decide⟩ (by decide +kernel) (Nat.le_of_ble_eq_true rfl) (Nat.le_of_ble_eq_true rfl) dX9_init_79 (fun q_79 => ?_)
  obtain ⟨U9, hU9⟩ : ∃ U9 : va_W, U9 = U8 ++ [(q_79, eI K 88)] := ⟨_, rfl⟩
  refine wpw_ws (ws2 := (q, .inr (10, [.ref q_7, .ref q_15, .ref q_23, .ref q_31, .ref q_39, .int (zI 0), .ref q_49, .ref q_61, .ref q_71, .null, .int (zI 0), .int (zI 0), .null, .int (zI 0), .int (zI 0), .int (zI 0), .null, .null, .int (zI 0), .int (zI 0), .int (zI 0), .null, .null, .null, .null, .null, .null, .int (zI 0), .int (zI 0), .int (zI 0), .null, .int (zI 0), .int (zI 0), .null, .null])) :: (q_7, eI K 88) :: U9) (by rw [hU9]; rfl) ?_
  refine wpw_putF (i := 0) (k := 9) (T := TX9) (ty := .array .int) (ws2 := (q, .inr (10, [.ref q_7, .ref q_15, .ref q_23, .ref q_31, .ref q_39, .int (zI 0), .ref q_49, .ref q_61, .ref q_71, .ref q_79, .int (zI 0), .int (zI 0), .null, .int (zI 0), .int (zI 0), .int (zI 0), .null, .null, .int (zI 0), .int (zI 0), .int (zI 0), .null, .null, .null, .null, .null, .null, .int (zI 0), .int (zI 0), .int (zI 0), .null, .int (zI 0), .int (zI 0), .null, .null])) :: (q_7, eI K 88) :: U9) hC hin rfl rfl (by decide) (by decide +kernel) (by decide +kernel) tyX9 tyX9_ok nmX9 rfl rfl rfl rfl rfl (Nat.le_of_ble_eq_true rfl) rfl dX9_init_81 ?_
  refine wpw_aload_n hC dX9_init_84 rfl ?_
  refine wpw_bipush hC dX9_init_85 rfl ?_
  refine wpw_newI (t := 0) hC rfl ⟨by decide, by decide⟩ (by decide +kernel) (Nat.le_of_ble_eq_true rfl) (Nat.le_of_ble_eq_true rfl) dX9_init_87 (fun q_87 => ?_)
  obtain ⟨U10, hU10⟩ : ∃ U10 : va_W, U10 = U9 ++ [(q_87, eI K 88)] := ⟨_, rfl⟩
  refine wpw_ws (ws2 := (q, .inr (10, [.ref q_7, .ref q_15, .ref q_23, .ref q_31, .ref q_39, .int (zI 0), .ref q_49, .ref q_61, .ref q_71, .ref q_79, .int (zI 0), .int (zI 0), .null, .int (zI 0), .int (zI 0), .int (zI 0), .null, .null, .int (zI 0), .int (zI 0), .int (zI 0), .null, .null, .null, .null, .null, .null, .int (zI 0), .int (zI 0), .int (zI 0), .null, .int (zI 0), .int (zI 0), .null, .null])) :: (q_7, eI K 88) :: U10) (by rw [hU10]; rfl) ?_
  refine wpw_putF (i := 0) (k := 12) (T := TX9) (ty := .array .int) (ws2 := (q, .inr (10, [.ref q_7, .ref q_15, .ref q_23, .ref q_31, .ref q_39, .int (zI 0), .ref q_49, .ref q_61, .ref q_71, .ref q_79, .int (zI 0), .int (zI 0), .ref q_87, .int (zI 0), .int (zI 0), .int (zI 0), .null, .null, .int (zI 0), .int (zI 0), .int (zI 0), .null, .null, .null, .null, .null, .null, .int (zI 0), .int (zI 0), .int (zI 0), .null, .int (zI 0), .int (zI 0), .null, .null])) :: (q_7, eI K 88) :: U10) hC hin rfl rfl (by decide) (by decide +kernel) (by decide +kernel) tyX9 tyX9_ok nmX9 rfl rfl rfl rfl rfl (Nat.le_of_ble_eq_true rfl) rfl dX9_init_89 ?_
  refine wpw_aload_n hC dX9_init_92 rfl ?_
  refine wpw_iconst hC dX9_init_93 ?_
  refine wpw_put (i := 0) (fs2 := []) (k := 13) (T := TX9) (ty := .int) (ws2 := (q, .inr (10, [.ref q_7, .ref q_15, .ref q_23, .ref q_31, .ref q_39, .int (zI 0), .ref q_49, .ref q_61, .ref q_71, .ref q_79, .int (zI 0), .int (zI 0), .ref q_87, .int (zI (-1)), .int (zI 0), .int (zI 0), .null, .null, .int (zI 0), .int (zI 0), .int (zI 0), .null, .null, .null, .null, .null, .null, .int (zI 0), .int (zI 0), .int (zI 0), .null, .int (zI 0), .int (zI 0), .null, .null])) :: (q_7, eI K 88) :: U10) hC rfl rfl (by decide) (by decide +kernel) (by decide +kernel) tyX9 tyX9_ok nmX9 rfl rfl rfl rfl (Nat.le_of_ble_eq_true rfl) rfl dX9_init_94 ?_
  refine wpw_aload_n hC dX9_init_97 rfl ?_
  refine wpw_bipush hC dX9_init_98 rfl ?_
  refine wpw_newI (t := 0) hC rfl ⟨by decide, by decide⟩ (by decide +kernel) (Nat.le_of_ble_eq_true rfl) (Nat.le_of_ble_eq_true rfl) dX9_init_100 (fun q_100 => ?_)
  obtain ⟨U11, hU11⟩ : ∃ U11 : va_W, U11 = U10 ++ [(q_100, eI K 39)] := ⟨_, rfl⟩
  refine wpw_ws (ws2 := (q, .inr (10, [.ref q_7, .ref q_15, .ref q_23, .ref q_31, .ref q_39, .int (zI 0), .ref q_49, .ref q_61, .ref q_71, .ref q_79, .int (zI 0), .int (zI 0), .ref q_87, .int (zI (-1)), .int (zI 0), .int (zI 0), .null, .null, .int (zI 0), .int (zI 0), .int (zI 0), .null, .null, .null, .null, .null, .null, .int (zI 0), .int (zI 0), .int (zI 0), .null, .int (zI 0), .int (zI 0), .null, .null])) :: (q_7, eI K 88) :: U11) (by rw [hU11]; rfl) ?_
  refine wpw_putF (i := 0) (k := 16) (T := TX9) (ty := .array .int) (ws2 := (q, .inr (10, [.ref q_7, .ref q_15, .ref q_23, .ref q_31, .ref q_39, .int (zI 0), .ref q_49, .ref q_61, .ref q_71, .ref q_79, .int (zI 0), .int (zI 0), .ref q_87, .int (zI (-1)), .int (zI 0), .int (zI 0), .ref q_100, .null, .int (zI 0), .int (zI 0), .int (zI 0), .null, .null, .null, .null, .null, .null, .int (zI 0), .int (zI 0), .int (zI 0), .null, .int (zI 0), .int (zI 0), .null, .null])) :: (q_7, eI K 88) :: U11) hC hin rfl rfl (by decide) (by decide +kernel) (by decide +kernel) tyX9 tyX9_ok nmX9 rfl rfl rfl rfl rfl (Nat.le_of_ble_eq_true rfl) rfl dX9_init_102 ?_
  refine wpw_aload_n hC dX9_init_105 rfl ?_
  refine wpw_bipush hC dX9_init_106 rfl ?_
  refine wpw_newI (t := 0) hC rfl ⟨by decide, by decide⟩ (by decide +kernel) (Nat.le_of_ble_eq_true rfl) (Nat.le_of_ble_eq_true rfl) dX9_init_108 (fun q_108 => ?_)
  obtain ⟨U12, hU12⟩ : ∃ U12 : va_W, U12 = U11 ++ [(q_108, eI K 100)] := ⟨_, rfl⟩
  refine wpw_ws (ws2 := (q, .inr (10, [.ref q_7, .ref q_15, .ref q_23, .ref q_31, .ref q_39, .int (zI 0), .ref q_49, .ref q_61, .ref q_71, .ref q_79, .int (zI 0), .int (zI 0), .ref q_87, .int (zI (-1)), .int (zI 0), .int (zI 0), .ref q_100, .null, .int (zI 0), .int (zI 0), .int (zI 0), .null, .null, .null, .null, .null, .null, .int (zI 0), .int (zI 0), .int (zI 0), .null, .int (zI 0), .int (zI 0), .null, .null])) :: (q_7, eI K 88) :: U12) (by rw [hU12]; rfl) ?_
  refine wpw_putF (i := 0) (k := 17) (T := TX9) (ty := .array .int) (ws2 := (q, .inr (10, [.ref q_7, .ref q_15, .ref q_23, .ref q_31, .ref q_39, .int (zI 0), .ref q_49, .ref q_61, .ref q_71, .ref q_79, .int (zI 0), .int (zI 0), .ref q_87, .int (zI (-1)), .int (zI 0), .int (zI 0), .ref q_100, .ref q_108, .int (zI 0), .int (zI 0), .int (zI 0), .null, .null, .null, .null, .null, .null, .int (zI 0), .int (zI 0), .int (zI 0), .null, .int (zI 0), .int (zI 0), .null, .null])) :: (q_7, eI K 88) :: U12) hC hin rfl rfl (by decide) (by decide +kernel) (by decide +kernel) tyX9 tyX9_ok nmX9 rfl rfl rfl rfl rfl (Nat.le_of_ble_eq_true rfl) rfl dX9_init_110 ?_
  refine wpw_aload_n hC dX9_init_113 rfl ?_
  refine wpw_iconst hC dX9_init_114 ?_
  refine wpw_newI (t := 0) hC rfl ⟨by decide, by decide⟩ (by decide +kernel) (Nat.le_of_ble_eq_true rfl) (Nat.le_of_ble_eq_true rfl) dX9_init_115 (fun q_115 => ?_)
  obtain ⟨U13, hU13⟩ : ∃ U13 : va_W, U13 = U12 ++ [(q_115, eI K 5)] := ⟨_, rfl⟩
  refine wpw_ws (ws2 := (q, .inr (10, [.ref q_7, .ref q_15, .ref q_23, .ref q_31, .ref q_39, .int (zI 0), .ref q_49, .ref q_61, .ref q_71, .ref q_79, .int (zI 0), .int (zI 0), .ref q_87, .int (zI (-1)), .int (zI 0), .int (zI 0), .ref q_100, .ref q_108, .int (zI 0), .int (zI 0), .int (zI 0), .null, .null, .null, .null, .null, .null, .int (zI 0), .int (zI 0), .int (zI 0), .null, .int (zI 0), .int (zI 0), .null, .null])) :: (q_7, eI K 88) :: U13) (by rw [hU13]; rfl) ?_
  refine wpw_putF (i := 0) (k := 21) (T := TX9) (ty := .array .int) (ws2 := (q, .inr (10, [.ref q_7, .ref q_15, .ref q_23, .ref q_31, .ref q_39, .int (zI 0), .ref q_49, .ref q_61, .ref q_71, .ref q_79, .int (zI 0), .int (zI 0), .ref q_87, .int (zI (-1)), .int (zI 0), .int (zI 0), .ref q_100, .ref q_108, .int (zI 0), .int (zI 0), .int (zI 0), .ref q_115, .null, .null, .null, .null, .null, .int (zI 0), .int (zI 0), .int (zI 0), .null, .int (zI 0), .int (zI 0), .null, .null])) :: (q_7, eI K 88) :: U13) hC hin rfl rfl (by decide) (by decide +kernel) (by decide +kernel) tyX9 tyX9_ok nmX9 rfl rfl rfl rfl rfl (Nat.le_of_ble_eq_true rfl) rfl dX9_init_117 ?_
  refine wpw_aload_n hC dX9_init_120 rfl ?_
  refine wpw_bipush hC dX9_init_121 rfl ?_
  refine wpw_bipush hC dX9_init_123 rfl ?_
  refine wpw_mna hm (t1 := 3) (t2 := 0) hC hN.2.2 rfl rfl ⟨by decide, by decide⟩ ⟨by decide, by decide⟩ (by decide +kernel) (by decide +kernel) (Nat.le_of_ble_eq_true rfl) (Nat.le_of_ble_eq_true rfl) dX9_init_125 (fun q_125 r_125 => ?_)
  obtain ⟨U14, hU14⟩ : ∃ U14 : va_W, U14 = U13 ++ ([(q_125, (.inl (K 3, 36, .inr (.inr (.inr (.inr (fun j => some (r_125 j)))))) : va_E))] ++ (List.range 36).map (fun j => (r_125 j, eI K 24))) := ⟨_, rfl⟩
  refine wpw_ws (ws2 := (q, .inr (10, [.ref q_7, .ref q_15, .ref q_23, .ref q_31, .ref q_39, .int (zI 0), .ref q_49, .ref q_61, .ref q_71, .ref q_79, .int (zI 0), .int (zI 0), .ref q_87, .int (zI (-1)), .int (zI 0), .int (zI 0), .ref q_100, .ref q_108, .int (zI 0), .int (zI 0), .int (zI 0), .ref q_115, .null, .null, .null, .null, .null, .int (zI 0), .int (zI 0), .int (zI 0), .null, .int (zI 0), .int (zI 0), .null, .null])) :: (q_7, eI K 88) :: U14) (by rw [hU14]; rfl) ?_
  refine wpw_putF (i := 0) (k := 22) (T := TX9) (ty := .array (.array .int)) (ws2 := (q, .inr (10, [.ref q_7, .ref q_15, .ref q_23, .ref q_31, .ref q_39, .int (zI 0), .ref q_49, .ref q_61, .ref q_71, .ref q_79, .int (zI 0), .int (zI 0), .ref q_87, .int (zI (-1)), .int (zI 0), .int (zI 0), .ref q_100, .ref q_108, .int (zI 0), .int (zI 0), .int (zI 0), .ref q_115, .ref q_125, .null, .null, .null, .null, .int (zI 0), .int (zI 0), .int (zI 0), .null, .int (zI 0), .int (zI 0), .null, .null])) :: (q_7, eI K 88) :: U14) hC hin rfl rfl (by decide) (by decide +kernel) (by decide +kernel) tyX9 tyX9_ok nmX9 rfl rfl rfl rfl rfl (Nat.le_of_ble_eq_true rfl) rfl dX9_init_129 ?_
  refine wpw_aload_n hC dX9_init_132 rfl ?_
  refine wpw_bipush hC dX9_init_133 rfl ?_
  refine wpw_newI (t := 0) hC rfl ⟨by decide, by decide⟩ (by decide +kernel) (Nat.le_of_ble_eq_true rfl) (Nat.le_of_ble_eq_true rfl) dX9_init_135 (fun q_135 => ?_)
  obtain ⟨U15, hU15⟩ : ∃ U15 : va_W, U15 = U14 ++ [(q_135, eI K 36)] := ⟨_, rfl⟩
  refine wpw_ws (ws2 := (q, .inr (10, [.ref q_7, .ref q_15, .ref q_23, .ref q_31, .ref q_39, .int (zI 0), .ref q_49, .ref q_61, .ref q_71, .ref q_79, .int (zI 0), .int (zI 0), .ref q_87, .int (zI (-1)), .int (zI 0), .int (zI 0), .ref q_100, .ref q_108, .int (zI 0), .int (zI 0), .int (zI 0), .ref q_115, .ref q_125, .null, .null, .null, .null, .int (zI 0), .int (zI 0), .int (zI 0), .null, .int (zI 0), .int (zI 0), .null, .null])) :: (q_7, eI K 88) :: U15) (by rw [hU15]; rfl) ?_
  refine wpw_putF (i := 0) (k := 23) (T := TX9) (ty := .array .int) (ws2 := (q, .inr (10, [.ref q_7, .ref q_15, .ref q_23, .ref q_31, .ref q_39, .int (zI 0), .ref q_49, .ref q_61, .ref q_71, .ref q_79, .int (zI 0), .int (zI 0), .ref q_87, .int (zI (-1)), .int (zI 0), .int (zI 0), .ref q_100, .ref q_108, .int (zI 0), .int (zI 0), .int (zI 0), .ref q_115, .ref q_125, .ref q_135, .null, .null, .null, .int (zI 0), .int (zI 0), .int (zI 0), .null, .int (zI 0), .int (zI 0), .null, .null])) :: (q_7, eI K 88) :: U15) hC hin rfl rfl (by decide) (by decide +kernel) (by decide +kernel) tyX9 tyX9_ok nmX9 rfl rfl rfl rfl rfl (Nat.le_of_ble_eq_true rfl) rfl dX9_init_137 ?_
  refine wpw_aload_n hC dX9_init_140 rfl ?_
  refine wpw_bipush hC dX9_init_141 rfl ?_
  refine wpw_newI (t := 0) hC rfl ⟨by decide, by decide⟩ (by decide +kernel) (Nat.le_of_ble_eq_true rfl) (Nat.le_of_ble_eq_true rfl) dX9_init_143 (fun q_143 => ?_)
  obtain ⟨U16, hU16⟩ : ∃ U16 : va_W, U16 = U15 ++ [(q_143, eI K 24)] := ⟨_, rfl⟩
  refine wpw_ws (ws2 := (q, .inr (10, [.ref q_7, .ref q_15, .ref q_23, .ref q_31, .ref q_39, .int (zI 0), .ref q_49, .ref q_61, .ref q_71, .ref q_79, .int (zI 0), .int (zI 0), .ref q_87, .int (zI (-1)), .int (zI 0), .int (zI 0), .ref q_100, .ref q_108, .int (zI 0), .int (zI 0), .int (zI 0), .ref q_115, .ref q_125, .ref q_135, .null, .null, .null, .int (zI 0), .int (zI 0), .int (zI 0), .null, .int (zI 0), .int (zI 0), .null, .null])) :: (q_7, eI K 88) :: U16) (by rw [hU16]; rfl) ?_
  refine wpw_putF (i := 0) (k := 24) (T := TX9) (ty := .array .int) (ws2 := (q, .inr (10, [.ref q_7, .ref q_15, .ref q_23, .ref q_31, .ref q_39, .int (zI 0), .ref q_49, .ref q_61, .ref q_71, .ref q_79, .int (zI 0), .int (zI 0), .ref q_87, .int (zI (-1)), .int (zI 0), .int (zI 0), .ref q_100, .ref q_108, .int (zI 0), .int (zI 0), .int (zI 0), .ref q_115, .ref q_125, .ref q_135, .ref q_143, .null, .null, .int (zI 0), .int (zI 0), .int (zI 0), .null, .int (zI 0), .int (zI 0), .null, .null])) :: (q_7, eI K 88) :: U16) hC hin rfl rfl (by decide) (by decide +kernel) (by decide +kernel) tyX9 tyX9_ok nmX9 rfl rfl rfl rfl rfl (Nat.le_of_ble_eq_true rfl) rfl dX9_init_145 ?_
  refine wpw_aload_n hC dX9_init_148 rfl ?_
  refine wpw_bipush hC dX9_init_149 rfl ?_
  refine wpw_newI (t := 0) hC rfl ⟨by decide, by decide⟩ (by decide +kernel) (Nat.le_of_ble_eq_true rfl) (Nat.le_of_ble_eq_true rfl) dX9_init_151 (fun q_151 => ?_)
  obtain ⟨U17, hU17⟩ : ∃ U17 : va_W, U17 = U16 ++ [(q_151, eI K 60)] := ⟨_, rfl⟩
  refine wpw_ws (ws2 := (q, .inr (10, [.ref q_7, .ref q_15, .ref q_23, .ref q_31, .ref q_39, .int (zI 0), .ref q_49, .ref q_61, .ref q_71, .ref q_79, .int (zI 0), .int (zI 0), .ref q_87, .int (zI (-1)), .int (zI 0), .int (zI 0), .ref q_100, .ref q_108, .int (zI 0), .int (zI 0), .int (zI 0), .ref q_115, .ref q_125, .ref q_135, .ref q_143, .null, .null, .int (zI 0), .int (zI 0), .int (zI 0), .null, .int (zI 0), .int (zI 0), .null, .null])) :: (q_7, eI K 88) :: U17) (by rw [hU17]; rfl) ?_
  refine wpw_putF (i := 0) (k := 25) (T := TX9) (ty := .array .int) (ws2 := (q, .inr (10, [.ref q_7, .ref q_15, .ref q_23, .ref q_31, .ref q_39, .int (zI 0), .ref q_49, .ref q_61, .ref q_71, .ref q_79, .int (zI 0), .int (zI 0), .ref q_87, .int (zI (-1)), .int (zI 0), .int (zI 0), .ref q_100, .ref q_108, .int (zI 0), .int (zI 0), .int (zI 0), .ref q_115, .ref q_125, .ref q_135, .ref q_143, .ref q_151, .null, .int (zI 0), .int (zI 0), .int (zI 0), .null, .int (zI 0), .int (zI 0), .null, .null])) :: (q_7, eI K 88) :: U17) hC hin rfl rfl (by decide) (by decide +kernel) (by decide +kernel) tyX9 tyX9_ok nmX9 rfl rfl rfl rfl rfl (Nat.le_of_ble_eq_true rfl) rfl dX9_init_153 ?_
  refine wpw_aload_n hC dX9_init_156 rfl ?_
  refine wpw_bipush hC dX9_init_157 rfl ?_
  refine wpw_newI (t := 0) hC rfl ⟨by decide, by decide⟩ (by decide +kernel) (Nat.le_of_ble_eq_true rfl) (Nat.le_of_ble_eq_true rfl) dX9_init_159 (fun q_159 => ?_)
  obtain ⟨U18, hU18⟩ : ∃ U18 : va_W, U18 = U17 ++ [(q_159, eI K 60)] := ⟨_, rfl⟩
  refine wpw_ws (ws2 := (q, .inr (10, [.ref q_7, .ref q_15, .ref q_23, .ref q_31, .ref q_39, .int (zI 0), .ref q_49, .ref q_61, .ref q_71, .ref q_79, .int (zI 0), .int (zI 0), .ref q_87, .int (zI (-1)), .int (zI 0), .int (zI 0), .ref q_100, .ref q_108, .int (zI 0), .int (zI 0), .int (zI 0), .ref q_115, .ref q_125, .ref q_135, .ref q_143, .ref q_151, .null, .int (zI 0), .int (zI 0), .int (zI 0), .null, .int (zI 0), .int (zI 0), .null, .null])) :: (q_7, eI K 88) :: U18) (by rw [hU18]; rfl) ?_
  refine wpw_putF (i := 0) (k := 26) (T := TX9) (ty := .array .int) (ws2 := (q, .inr (10, [.ref q_7, .ref q_15, .ref q_23, .ref q_31, .ref q_39, .int (zI 0), .ref q_49, .ref q_61, .ref q_71, .ref q_79, .int (zI 0), .int (zI 0), .ref q_87, .int (zI (-1)), .int (zI 0), .int (zI 0), .ref q_100, .ref q_108, .int (zI 0), .int (zI 0), .int (zI 0), .ref q_115, .ref q_125, .ref q_135, .ref q_143, .ref q_151, .ref q_159, .int (zI 0), .int (zI 0), .int (zI 0), .null, .int (zI 0), .int (zI 0), .null, .null])) :: (q_7, eI K 88) :: U18) hC hin rfl rfl (by decide) (by decide +kernel) (by decide +kernel) tyX9 tyX9_ok nmX9 rfl rfl rfl rfl rfl (Nat.le_of_ble_eq_true rfl) rfl dX9_init_161 ?_
  refine wpw_aload_n hC dX9_init_164 rfl ?_
  refine wpw_bipush hC dX9_init_165 rfl ?_
  refine wpw_newI (t := 0) hC rfl ⟨by decide, by decide⟩ (by decide +kernel) (Nat.le_of_ble_eq_true rfl) (Nat.le_of_ble_eq_true rfl) dX9_init_167 (fun q_167 => ?_)
  obtain ⟨U19, hU19⟩ : ∃ U19 : va_W, U19 = U18 ++ [(q_167, eI K 24)] := ⟨_, rfl⟩
  refine wpw_ws (ws2 := (q, .inr (10, [.ref q_7, .ref q_15, .ref q_23, .ref q_31, .ref q_39, .int (zI 0), .ref q_49, .ref q_61, .ref q_71, .ref q_79, .int (zI 0), .int (zI 0), .ref q_87, .int (zI (-1)), .int (zI 0), .int (zI 0), .ref q_100, .ref q_108, .int (zI 0), .int (zI 0), .int (zI 0), .ref q_115, .ref q_125, .ref q_135, .ref q_143, .ref q_151, .ref q_159, .int (zI 0), .int (zI 0), .int (zI 0), .null, .int (zI 0), .int (zI 0), .null, .null])) :: (q_7, eI K 88) :: U19) (by rw [hU19]; rfl) ?_
  refine wpw_putF (i := 0) (k := 30) (T := TX9) (ty := .array .int) (ws2 := (q, .inr (10, [.ref q_7, .ref q_15, .ref q_23, .ref q_31, .ref q_39, .int (zI 0), .ref q_49, .ref q_61, .ref q_71, .ref q_79, .int (zI 0), .int (zI 0), .ref q_87, .int (zI (-1)), .int (zI 0), .int (zI 0), .ref q_100, .ref q_108, .int (zI 0), .int (zI 0), .int (zI 0), .ref q_115, .ref q_125, .ref q_135, .ref q_143, .ref q_151, .ref q_159, .int (zI 0), .int (zI 0), .int (zI 0), .ref q_167, .int (zI 0), .int (zI 0), .null, .null])) :: (q_7, eI K 88) :: U19) hC hin rfl rfl (by decide) (by decide +kernel) (by decide +kernel) tyX9 tyX9_ok nmX9 rfl rfl rfl rfl rfl (Nat.le_of_ble_eq_true rfl) rfl dX9_init_169 ?_
  refine wpw_aload_n hC dX9_init_172 rfl ?_
  refine wpw_bipush hC dX9_init_173 rfl ?_
  refine wpw_newJ (t := 2) hC rfl ⟨by decide, by decide⟩ (by decide +kernel) (Nat.le_of_ble_eq_true rfl) (Nat.le_of_ble_eq_true rfl) dX9_init_175 (fun q_175 => ?_)
  obtain ⟨U20, hU20⟩ : ∃ U20 : va_W, U20 = U19 ++ [(q_175, eJ K 96)] := ⟨_, rfl⟩
  refine wpw_ws (ws2 := (q, .inr (10, [.ref q_7, .ref q_15, .ref q_23, .ref q_31, .ref q_39, .int (zI 0), .ref q_49, .ref q_61, .ref q_71, .ref q_79, .int (zI 0), .int (zI 0), .ref q_87, .int (zI (-1)), .int (zI 0), .int (zI 0), .ref q_100, .ref q_108, .int (zI 0), .int (zI 0), .int (zI 0), .ref q_115, .ref q_125, .ref q_135, .ref q_143, .ref q_151, .ref q_159, .int (zI 0), .int (zI 0), .int (zI 0), .ref q_167, .int (zI 0), .int (zI 0), .null, .null])) :: (q_7, eI K 88) :: U20) (by rw [hU20]; rfl) ?_
  refine wpw_putF (i := 0) (k := 33) (T := TX9) (ty := .array .long) (ws2 := (q, .inr (10, [.ref q_7, .ref q_15, .ref q_23, .ref q_31, .ref q_39, .int (zI 0), .ref q_49, .ref q_61, .ref q_71, .ref q_79, .int (zI 0), .int (zI 0), .ref q_87, .int (zI (-1)), .int (zI 0), .int (zI 0), .ref q_100, .ref q_108, .int (zI 0), .int (zI 0), .int (zI 0), .ref q_115, .ref q_125, .ref q_135, .ref q_143, .ref q_151, .ref q_159, .int (zI 0), .int (zI 0), .int (zI 0), .ref q_167, .int (zI 0), .int (zI 0), .ref q_175, .null])) :: (q_7, eI K 88) :: U20) hC hin rfl rfl (by decide) (by decide +kernel) (by decide +kernel) tyX9 tyX9_ok nmX9 rfl rfl rfl rfl rfl (Nat.le_of_ble_eq_true rfl) rfl dX9_init_177 ?_
  refine wpw_aload_n hC dX9_init_180 rfl ?_
  refine wpw_iconst hC dX9_init_181 ?_
  refine wpw_newI (t := 0) hC rfl ⟨by decide, by decide⟩ (by decide +kernel) (Nat.le_of_ble_eq_true rfl) (Nat.le_of_ble_eq_true rfl) dX9_init_182 (fun q_182 => ?_)
  refine wpw_swap (X1 := (q, .inr (10, [.ref q_7, .ref q_15, .ref q_23, .ref q_31, .ref q_39, .int (zI 0), .ref q_49, .ref q_61, .ref q_71, .ref q_79, .int (zI 0), .int (zI 0), .ref q_87, .int (zI (-1)), .int (zI 0), .int (zI 0), .ref q_100, .ref q_108, .int (zI 0), .int (zI 0), .int (zI 0), .ref q_115, .ref q_125, .ref q_135, .ref q_143, .ref q_151, .ref q_159, .int (zI 0), .int (zI 0), .int (zI 0), .ref q_167, .int (zI 0), .int (zI 0), .ref q_175, .null])) :: (q_7, eI K 88) :: []) (X2 := U20) (X3 := [(q_182, eI K 4)]) rfl ?_
  refine wpw_ws (ws2 := (q, .inr (10, [.ref q_7, .ref q_15, .ref q_23, .ref q_31, .ref q_39, .int (zI 0), .ref q_49, .ref q_61, .ref q_71, .ref q_79, .int (zI 0), .int (zI 0), .ref q_87, .int (zI (-1)), .int (zI 0), .int (zI 0), .ref q_100, .ref q_108, .int (zI 0), .int (zI 0), .int (zI 0), .ref q_115, .ref q_125, .ref q_135, .ref q_143, .ref q_151, .ref q_159, .int (zI 0), .int (zI 0), .int (zI 0), .ref q_167, .int (zI 0), .int (zI 0), .ref q_175, .null])) :: (q_7, eI K 88) :: (q_182, eI K 4) :: U20) rfl ?_
  refine wpw_putF (i := 0) (k := 34) (T := TX9) (ty := .array .int) (ws2 := (q, .inr (10, [.ref q_7, .ref q_15, .ref q_23, .ref q_31, .ref q_39, .int (zI 0), .ref q_49, .ref q_61, .ref q_71, .ref q_79, .int (zI 0), .int (zI 0), .ref q_87, .int (zI (-1)), .int (zI 0), .int (zI 0), .ref q_100, .ref q_108, .int (zI 0), .int (zI 0), .int (zI 0), .ref q_115, .ref q_125, .ref q_135, .ref q_143, .ref q_151, .ref q_159, .int (zI 0), .int (zI 0), .int (zI 0), .ref q_167, .int (zI 0), .int (zI 0), .ref q_175, .ref q_182])) :: (q_7, eI K 88) :: (q_182, eI K 4) :: U20) hC hin rfl rfl (by decide) (by decide +kernel) (by decide +kernel) tyX9 tyX9_ok nmX9 rfl rfl rfl rfl rfl (Nat.le_of_ble_eq_true rfl) rfl dX9_init_184 ?_
  refine wpw_iconst hC dX9_init_187 ?_
  refine wpw_istore_n (lv2 := [(0, _), (1, _)]) hC dX9_init_188 rfl (by decide) ?_
  refine wpw_iload_n hC dX9_init_189 rfl ?_
  refine wpw_iconst hC dX9_init_190 ?_
  refine wpw_icmp_ge (tgt := 211) hC dX9_init_191 (by decide) ⟨by decide, by decide⟩ ⟨by decide, by decide⟩ (fun c_191 => absurd c_191 (by decide)) (fun c_191 => ?_)
  refine wpw_aload_n hC dX9_init_194 rfl ?_
  refine wpw_get (i := 0) (k := 0) (T := TX9) hC rfl rfl (by decide) (by decide +kernel) (by decide +kernel) rfl dX9_init_195 ?_
  refine wpw_bipush hC dX9_init_198 rfl ?_
  refine wpw_iload_n hC dX9_init_200 rfl ?_
  refine wpw_iadd hC dX9_init_201 ?_
  refine wpw_bipush hC dX9_init_202 rfl ?_
  refine wpw_iast (i := 1) (t := 0) (ws2 := (q, .inr (10, [.ref q_7, .ref q_15, .ref q_23, .ref q_31, .ref q_39, .int (zI 0), .ref q_49, .ref q_61, .ref q_71, .ref q_79, .int (zI 0), .int (zI 0), .ref q_87, .int (zI (-1)), .int (zI 0), .int (zI 0), .ref q_100, .ref q_108, .int (zI 0), .int (zI 0), .int (zI 0), .ref q_115, .ref q_125, .ref q_135, .ref q_143, .ref q_151, .ref q_159, .int (zI 0), .int (zI 0), .int (zI 0), .ref q_167, .int (zI 0), .int (zI 0), .ref q_175, .ref q_182])) :: (q_7, .inl (K 0, 88, .inl (upd (fun _ => zI 0) 36 (zI 100)))) :: (q_182, eI K 4) :: U20) hC rfl rfl (by decide) ⟨by decide, by decide⟩ rfl dX9_init_204 ?_
  refine wpw_iinc (lv2 := [(0, _), (1, .int (zI 1))]) hC dX9_init_205 rfl rfl (by decide) ?_
  refine wpw_goto (tgt := 189) hC dX9_init_208 (by decide) ?_
  refine wpw_iload_n hC dX9_init_189 rfl ?_
  refine wpw_iconst hC dX9_init_190 ?_
  refine wpw_icmp_ge (tgt := 211) hC dX9_init_191 (by decide) ⟨by decide, by decide⟩ ⟨by decide, by decide⟩ (fun c_191 => absurd c_191 (by decide)) (fun c_191 => ?_)
  refine wpw_aload_n hC dX9_init_194 rfl ?_
  refine wpw_get (i := 0) (k := 0) (T := TX9) hC rfl rfl (by decide) (by decide +kernel) (by decide +kernel) rfl dX9_init_195 ?_
  refine wpw_bipush hC dX9_init_198 rfl ?_
  refine wpw_iload_n hC dX9_init_200 rfl ?_
  refine wpw_iadd hC dX9_init_201 ?_
  refine wpw_bipush hC dX9_init_202 rfl ?_
  refine wpw_iast (i := 1) (t := 0) (ws2 := (q, .inr (10, [.ref q_7, .ref q_15, .ref q_23, .ref q_31, .ref q_39, .int (zI 0), .ref q_49, .ref q_61, .ref q_71, .ref q_79, .int (zI 0), .int (zI 0), .ref q_87, .int (zI (-1)), .int (zI 0), .int (zI 0), .ref q_100, .ref q_108, .int (zI 0), .int (zI 0), .int (zI 0), .ref q_115, .ref q_125, .ref q_135, .ref q_143, .ref q_151, .ref q_159, .int (zI 0), .int (zI 0), .int (zI 0), .ref q_167, .int (zI 0), .int (zI 0), .ref q_175, .ref q_182])) :: (q_7, .inl (K 0, 88, .inl (upd (upd (fun _ => zI 0) 36 (zI 100)) 37 (zI 100)))) :: (q_182, eI K 4) :: U20) hC rfl rfl (by decide) ⟨by decide, by decide⟩ rfl dX9_init_204 ?_
  refine wpw_iinc (lv2 := [(0, _), (1, .int (zI 2))]) hC dX9_init_205 rfl rfl (by decide) ?_
  refine wpw_goto (tgt := 189) hC dX9_init_208 (by decide) ?_
  refine wpw_iload_n hC dX9_init_189 rfl ?_
  refine wpw_iconst hC dX9_init_190 ?_
  refine wpw_icmp_ge (tgt := 211) hC dX9_init_191 (by decide) ⟨by decide, by decide⟩ ⟨by decide, by decide⟩ (fun c_191 => absurd c_191 (by decide)) (fun c_191 => ?_)
  refine wpw_aload_n hC dX9_init_194 rfl ?_
  refine wpw_get (i := 0) (k := 0) (T := TX9) hC rfl rfl (by decide) (by decide +kernel) (by decide +kernel) rfl dX9_init_195 ?_
  refine wpw_bipush hC dX9_init_198 rfl ?_
  refine wpw_iload_n hC dX9_init_200 rfl ?_
  refine wpw_iadd hC dX9_init_201 ?_
  refine wpw_bipush hC dX9_init_202 rfl ?_
  refine wpw_iast (i := 1) (t := 0) (ws2 := (q, .inr (10, [.ref q_7, .ref q_15, .ref q_23, .ref q_31, .ref q_39, .int (zI 0), .ref q_49, .ref q_61, .ref q_71, .ref q_79, .int (zI 0), .int (zI 0), .ref q_87, .int (zI (-1)), .int (zI 0), .int (zI 0), .ref q_100, .ref q_108, .int (zI 0), .int (zI 0), .int (zI 0), .ref q_115, .ref q_125, .ref q_135, .ref q_143, .ref q_151, .ref q_159, .int (zI 0), .int (zI 0), .int (zI 0), .ref q_167, .int (zI 0), .int (zI 0), .ref q_175, .ref q_182])) :: (q_7, .inl (K 0, 88, .inl (upd (upd (upd (fun _ => zI 0) 36 (zI 100)) 37 (zI 100)) 38 (zI 100)))) :: (q_182, eI K 4) :: U20) hC rfl rfl (by decide) ⟨by decide, by decide⟩ rfl dX9_init_204 ?_
  refine wpw_iinc (lv2 := [(0, _), (1, .int (zI 3))]) hC dX9_init_205 rfl rfl (by decide) ?_
  refine wpw_goto (tgt := 189) hC dX9_init_208 (by decide) ?_
  refine wpw_iload_n hC dX9_init_189 rfl ?_
  refine wpw_iconst hC dX9_init_190 ?_
  refine wpw_icmp_ge (tgt := 211) hC dX9_init_191 (by decide) ⟨by decide, by decide⟩ ⟨by decide, by decide⟩ (fun c_191 => absurd c_191 (by decide)) (fun c_191 => ?_)
  refine wpw_aload_n hC dX9_init_194 rfl ?_
  refine wpw_get (i := 0) (k := 0) (T := TX9) hC rfl rfl (by decide) (by decide +kernel) (by decide +kernel) rfl dX9_init_195 ?_
  refine wpw_bipush hC dX9_init_198 rfl ?_
  refine wpw_iload_n hC dX9_init_200 rfl ?_
  refine wpw_iadd hC dX9_init_201 ?_
  refine wpw_bipush hC dX9_init_202 rfl ?_
  refine wpw_iast (i := 1) (t := 0) (ws2 := (q, .inr (10, [.ref q_7, .ref q_15, .ref q_23, .ref q_31, .ref q_39, .int (zI 0), .ref q_49, .ref q_61, .ref q_71, .ref q_79, .int (zI 0), .int (zI 0), .ref q_87, .int (zI (-1)), .int (zI 0), .int (zI 0), .ref q_100, .ref q_108, .int (zI 0), .int (zI 0), .int (zI 0), .ref q_115, .ref q_125, .ref q_135, .ref q_143, .ref q_151, .ref q_159, .int (zI 0), .int (zI 0), .int (zI 0), .ref q_167, .int (zI 0), .int (zI 0), .ref q_175, .ref q_182])) :: (q_7, .inl (K 0, 88, .inl (upd (upd (upd (upd (fun _ => zI 0) 36 (zI 100)) 37 (zI 100)) 38 (zI 100)) 39 (zI 100)))) :: (q_182, eI K 4) :: U20) hC rfl rfl (by decide) ⟨by decide, by decide⟩ rfl dX9_init_204 ?_
  refine wpw_iinc (lv2 := [(0, _), (1, .int (zI 4))]) hC dX9_init_205 rfl rfl (by decide) ?_
  refine wpw_goto (tgt := 189) hC dX9_init_208 (by decide) ?_
  refine wpw_iload_n hC dX9_init_189 rfl ?_
  refine wpw_iconst hC dX9_init_190 ?_
  refine wpw_icmp_ge (tgt := 211) hC dX9_init_191 (by decide) ⟨by decide, by decide⟩ ⟨by decide, by decide⟩ (fun c_191 => ?_) (fun c_191 => absurd c_191 (by decide))
  refine wpw_iconst hC dX9_init_211 ?_
  refine wpw_istore_n (lv2 := [(0, _), (1, _)]) hC dX9_init_212 rfl (by decide) ?_
  refine wpw_iload_n hC dX9_init_213 rfl ?_
  refine wpw_iconst hC dX9_init_214 ?_
  refine wpw_icmp_ge (tgt := 231) hC dX9_init_215 (by decide) ⟨by decide, by decide⟩ ⟨by decide, by decide⟩ (fun c_215 => absurd c_215 (by decide)) (fun c_215 => ?_)
  refine wpw_aload_n hC dX9_init_218 rfl ?_
  refine wpw_get (i := 0) (k := 34) (T := TX9) hC rfl rfl (by decide) (by decide +kernel) (by decide +kernel) rfl dX9_init_219 ?_
  refine wpw_iload_n hC dX9_init_222 rfl ?_
  refine wpw_iconst hC dX9_init_223 ?_
  refine wpw_iast (i := 2) (t := 0) (ws2 := (q, .inr (10, [.ref q_7, .ref q_15, .ref q_23, .ref q_31, .ref q_39, .int (zI 0), .ref q_49, .ref q_61, .ref q_71, .ref q_79, .int (zI 0), .int (zI 0), .ref q_87, .int (zI (-1)), .int (zI 0), .int (zI 0), .ref q_100, .ref q_108, .int (zI 0), .int (zI 0), .int (zI 0), .ref q_115, .ref q_125, .ref q_135, .ref q_143, .ref q_151, .ref q_159, .int (zI 0), .int (zI 0), .int (zI 0), .ref q_167, .int (zI 0), .int (zI 0), .ref q_175, .ref q_182])) :: (q_7, .inl (K 0, 88, .inl (upd (upd (upd (upd (fun _ => zI 0) 36 (zI 100)) 37 (zI 100)) 38 (zI 100)) 39 (zI 100)))) :: (q_182, .inl (K 0, 4, .inl (upd (fun _ => zI 0) 0 (zI (-1))))) :: U20) hC rfl rfl (by decide) ⟨by decide, by decide⟩ rfl dX9_init_224 ?_
  refine wpw_iinc (lv2 := [(0, _), (1, .int (zI 1))]) hC dX9_init_225 rfl rfl (by decide) ?_
  refine wpw_goto (tgt := 213) hC dX9_init_228 (by decide) ?_
  refine wpw_iload_n hC dX9_init_213 rfl ?_
  refine wpw_iconst hC dX9_init_214 ?_
  refine wpw_icmp_ge (tgt := 231) hC dX9_init_215 (by decide) ⟨by decide, by decide⟩ ⟨by decide, by decide⟩ (fun c_215 => absurd c_215 (by decide)) (fun c_215 => ?_)
  refine wpw_aload_n hC dX9_init_218 rfl ?_
  refine wpw_get (i := 0) (k := 34) (T := TX9) hC rfl rfl (by decide) (by decide +kernel) (by decide +kernel) rfl dX9_init_219 ?_
  refine wpw_iload_n hC dX9_init_222 rfl ?_
  refine wpw_iconst hC dX9_init_223 ?_
  refine wpw_iast (i := 2) (t := 0) (ws2 := (q, .inr (10, [.ref q_7, .ref q_15, .ref q_23, .ref q_31, .ref q_39, .int (zI 0), .ref q_49, .ref q_61, .ref q_71, .ref q_79, .int (zI 0), .int (zI 0), .ref q_87, .int (zI (-1)), .int (zI 0), .int (zI 0), .ref q_100, .ref q_108, .int (zI 0), .int (zI 0), .int (zI 0), .ref q_115, .ref q_125, .ref q_135, .ref q_143, .ref q_151, .ref q_159, .int (zI 0), .int (zI 0), .int (zI 0), .ref q_167, .int (zI 0), .int (zI 0), .ref q_175, .ref q_182])) :: (q_7, .inl (K 0, 88, .inl (upd (upd (upd (upd (fun _ => zI 0) 36 (zI 100)) 37 (zI 100)) 38 (zI 100)) 39 (zI 100)))) :: (q_182, .inl (K 0, 4, .inl (upd (upd (fun _ => zI 0) 0 (zI (-1))) 1 (zI (-1))))) :: U20) hC rfl rfl (by decide) ⟨by decide, by decide⟩ rfl dX9_init_224 ?_
  refine wpw_iinc (lv2 := [(0, _), (1, .int (zI 2))]) hC dX9_init_225 rfl rfl (by decide) ?_
  refine wpw_goto (tgt := 213) hC dX9_init_228 (by decide) ?_
  refine wpw_iload_n hC dX9_init_213 rfl ?_
  refine wpw_iconst hC dX9_init_214 ?_
  refine wpw_icmp_ge (tgt := 231) hC dX9_init_215 (by decide) ⟨by decide, by decide⟩ ⟨by decide, by decide⟩ (fun c_215 => absurd c_215 (by decide)) (fun c_215 => ?_)
  refine wpw_aload_n hC dX9_init_218 rfl ?_
  refine wpw_get (i := 0) (k := 34) (T := TX9) hC rfl rfl (by decide) (by decide +kernel) (by decide +kernel) rfl dX9_init_219 ?_
  refine wpw_iload_n hC dX9_init_222 rfl ?_
  refine wpw_iconst hC dX9_init_223 ?_
  refine wpw_iast (i := 2) (t := 0) (ws2 := (q, .inr (10, [.ref q_7, .ref q_15, .ref q_23, .ref q_31, .ref q_39, .int (zI 0), .ref q_49, .ref q_61, .ref q_71, .ref q_79, .int (zI 0), .int (zI 0), .ref q_87, .int (zI (-1)), .int (zI 0), .int (zI 0), .ref q_100, .ref q_108, .int (zI 0), .int (zI 0), .int (zI 0), .ref q_115, .ref q_125, .ref q_135, .ref q_143, .ref q_151, .ref q_159, .int (zI 0), .int (zI 0), .int (zI 0), .ref q_167, .int (zI 0), .int (zI 0), .ref q_175, .ref q_182])) :: (q_7, .inl (K 0, 88, .inl (upd (upd (upd (upd (fun _ => zI 0) 36 (zI 100)) 37 (zI 100)) 38 (zI 100)) 39 (zI 100)))) :: (q_182, .inl (K 0, 4, .inl (upd (upd (upd (fun _ => zI 0) 0 (zI (-1))) 1 (zI (-1))) 2 (zI (-1))))) :: U20) hC rfl rfl (by decide) ⟨by decide, by decide⟩ rfl dX9_init_224 ?_
  refine wpw_iinc (lv2 := [(0, _), (1, .int (zI 3))]) hC dX9_init_225 rfl rfl (by decide) ?_
  refine wpw_goto (tgt := 213) hC dX9_init_228 (by decide) ?_
  refine wpw_iload_n hC dX9_init_213 rfl ?_
  refine wpw_iconst hC dX9_init_214 ?_
  refine wpw_icmp_ge (tgt := 231) hC dX9_init_215 (by decide) ⟨by decide, by decide⟩ ⟨by decide, by decide⟩ (fun c_215 => absurd c_215 (by decide)) (fun c_215 => ?_)
  refine wpw_aload_n hC dX9_init_218 rfl ?_
  refine wpw_get (i := 0) (k := 34) (T := TX9) hC rfl rfl (by decide) (by decide +kernel) (by decide +kernel) rfl dX9_init_219 ?_
  refine wpw_iload_n hC dX9_init_222 rfl ?_
  refine wpw_iconst hC dX9_init_223 ?_
  refine wpw_iast (i := 2) (t := 0) (ws2 := (q, .inr (10, [.ref q_7, .ref q_15, .ref q_23, .ref q_31, .ref q_39, .int (zI 0), .ref q_49, .ref q_61, .ref q_71, .ref q_79, .int (zI 0), .int (zI 0), .ref q_87, .int (zI (-1)), .int (zI 0), .int (zI 0), .ref q_100, .ref q_108, .int (zI 0), .int (zI 0), .int (zI 0), .ref q_115, .ref q_125, .ref q_135, .ref q_143, .ref q_151, .ref q_159, .int (zI 0), .int (zI 0), .int (zI 0), .ref q_167, .int (zI 0), .int (zI 0), .ref q_175, .ref q_182])) :: (q_7, .inl (K 0, 88, .inl (upd (upd (upd (upd (fun _ => zI 0) 36 (zI 100)) 37 (zI 100)) 38 (zI 100)) 39 (zI 100)))) :: (q_182, .inl (K 0, 4, .inl (upd (upd (upd (upd (fun _ => zI 0) 0 (zI (-1))) 1 (zI (-1))) 2 (zI (-1))) 3 (zI (-1))))) :: U20) hC rfl rfl (by decide) ⟨by decide, by decide⟩ rfl dX9_init_224 ?_
  refine wpw_iinc (lv2 := [(0, _), (1, .int (zI 4))]) hC dX9_init_225 rfl rfl (by decide) ?_
  refine wpw_goto (tgt := 213) hC dX9_init_228 (by decide) ?_
  refine wpw_iload_n hC dX9_init_213 rfl ?_
  refine wpw_iconst hC dX9_init_214 ?_
  refine wpw_icmp_ge (tgt := 231) hC dX9_init_215 (by decide) ⟨by decide, by decide⟩ ⟨by decide, by decide⟩ (fun c_215 => ?_) (fun c_215 => absurd c_215 (by decide))
  subst hU20 hU19 hU18 hU17 hU16 hU15 hU14 hU13 hU12 hU11 hU10 hU9 hU8 hU7 hU6 hU5 hU4 hU3 hU2 hU0
  exact hret _ _ _ ⟨fun i => ([q, q_7, q_15, q_23, q_31, q_39, q_49, q_61, q_71, q_79, q_87, q_100, q_108, q_115, q_125, q_135, q_143, q_151, q_159, q_167, q_175, q_182] : List Nat).getD i 0, r_49, r_61, r_125, rfl, rfl⟩ dX9_init_231
