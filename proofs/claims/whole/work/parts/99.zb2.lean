theorem hkIX2_init : yX2_init.name = "<init>" ∧ yX2_init.cls ≠ "java/lang/invoke/MethodHandle" ∧ yX2_init.cls ≠ "java/lang/invoke/VarHandle" ∧ (parseMethodDescriptor yX2_init.desc).map (fun d => d.parameters.length) = some 0 := by decide +kernel
def stS (K : Nat → ClassId) (a : Nat → Nat → Nat) : Nat → va_W
  | 0 => []
  | i + 1 => stS K a i ++ stC K (a i)
theorem stS_congr {K : Nat → ClassId} {a b : Nat → Nat → Nat} : ∀ {i : Nat}, (∀ j, j < i → a j = b j) → stS K a i = stS K b i
  | 0, _ => rfl
  | i + 1, h => by
    show stS K a i ++ stC K (a i) = stS K b i ++ stC K (b i)
    rw [stS_congr (i := i) (fun j hj => h j (by omega)), h i (by omega)]
abbrev hsC (K : Nat → ClassId) (q ql : Nat) (f : Nat → Option Nat) : va_W := [(q, .inr (3, [.ref ql, .int (zI 0), .int (zI 0)])), (ql, .inl (K 4, 13, .inr (.inr (.inr (.inr f)))))]

set_option maxHeartbeats 4000000 in
set_option maxRecDepth 100000 in
theorem k_X2_init {l : Launch} {D : va_G} {K : Nat → ClassId} {q : Nat} : MKv l yX2_init wsX2_init ({ frames := 2, cells := 66, slots := 1222, locals := 70 } : Room) D vwCl (tyk K) [.ref q] [(q, .inr (3, [.null, .int (zI 0), .int (zI 0)]))] (fun X2 => ∃ (ql : Nat) (a : Nat → Nat → Nat) (f : Nat → Option Nat), (∀ j, j < 13 → f j = some (a j 0)) ∧ X2 = hsC K q ql f ++ stS K a 13) := by
  refine MKv.of (by decide +kernel) rfl rfl (Nat.le_of_ble_eq_true rfl) rfl ?_
  intro p e s m args below meth c Q hC hin hN hret
  refine wpw_aload_n hC dX2_init_0 rfl ?_
  refine wpw_objK hC (by decide +kernel) (by decide +kernel) (by decide +kernel) (Nat.le_of_ble_eq_true rfl) (Nat.le_of_ble_eq_true rfl) dX2_init_1 ?_
  refine wpw_aload_n hC dX2_init_4 rfl ?_
  refine wpw_bipush hC dX2_init_5 rfl ?_
  refine wpw_newq hC (t := 4) rfl ⟨by decide, by decide⟩ (by decide +kernel) hN.2.1 (Nat.le_of_ble_eq_true rfl) (Nat.le_of_ble_eq_true rfl) dX2_init_7 (fun ql => ?_)
  refine wpw_putF (i := 0) (k := 0) (T := TX2) (ty := .array (.object "PromiseMind$State")) hC hin rfl rfl (by decide) (by decide +kernel) (by decide +kernel) tyX2 tyX2_ok nmX2 rfl rfl rfl rfl rfl (Nat.le_of_ble_eq_true rfl) rfl dX2_init_10 ?_
  refine wpw_iconst hC dX2_init_13 ?_
  refine wpw_istore_n (lv2 := [(0, _), (1, _)]) hC dX2_init_14 rfl (by decide) ?_
  have L15 : ∀ (z i : Nat) (a : Nat → Nat → Nat) (f : Nat → Option Nat) (c9 s9 : Nat), 13 - i = z → i ≤ 13 → (∀ j, j < i → f j = some (a j 0)) → c9 ≤ 1 + 5 * i → s9 ≤ 13 + 93 * i → wpw p l e ({ frames := 2, cells := 66, slots := 1222, locals := 70 } : Room) s m args below meth c (va_A [(q, .inr (3, [.null, .int (zI 0), .int (zI 0)]))] s.heap.size) s.heap 2 Q D vwCl (hsC K q ql f ++ stS K a i) c9 s9 15 [(0, .ref q), (1, .int (zI i))] [] := by
    intro z
    induction z with
    | zero =>
      intro i a f c9 s9 hz hi hf hc hs
      obtain rfl : i = 13 := by omega
      refine wpw_iload_n hC dX2_init_15 rfl ?_
      refine wpw_aload_n hC dX2_init_16 rfl ?_
      refine wpw_get (i := 0) (k := 0) (T := TX2) hC rfl rfl (by decide) (by decide +kernel) (by decide +kernel) rfl dX2_init_17 ?_
      refine wpw_alenq (i := 1) (t := 4) hC rfl rfl dX2_init_20 ?_
      refine wpw_icmp_ge (tgt := 43) hC dX2_init_21 (by decide) ⟨by decide, by decide⟩ ⟨by decide, by decide⟩ (fun c_21 => ?_) (fun c_21 => absurd c_21 (by decide))
      refine wpw_more (cells2 := 66) (slots2 := 1222) (by omega) (by omega) ?_
      exact hret _ _ _ ⟨ql, a, f, hf, rfl⟩ dX2_init_43
    | succ z ih =>
      intro i a f c9 s9 hz hi hf hc hs
      refine wpw_iload_n hC dX2_init_15 rfl ?_
      refine wpw_aload_n hC dX2_init_16 rfl ?_
      refine wpw_get (i := 0) (k := 0) (T := TX2) hC rfl rfl (by decide) (by decide +kernel) (by decide +kernel) rfl dX2_init_17 ?_
      refine wpw_alenq (i := 1) (t := 4) hC rfl rfl dX2_init_20 ?_
      refine wpw_icmp_ge (tgt := 43) hC dX2_init_21 (by decide) ⟨by omega, by omega⟩ ⟨by decide, by decide⟩ (fun c_21 => absurd c_21 (by omega)) (fun c_21 => ?_)
      refine wpw_aload_n hC dX2_init_24 rfl ?_
      refine wpw_get (i := 0) (k := 0) (T := TX2) hC rfl rfl (by decide) (by decide +kernel) (by decide +kernel) rfl dX2_init_25 ?_
      refine wpw_iload_n hC dX2_init_28 rfl ?_
      refine wpw_newo (ci := 6) hC rfl (by decide +kernel) tyX5 tyX5_ok [.null, .null, .null, .null, .int (zI 0)] (fun j hj => by rcases (show j = 0 ∨ j = 1 ∨ j = 2 ∨ j = 3 ∨ j = 4 by omega) with rfl | rfl | rfl | rfl | rfl <;> rfl) (by decide +kernel) (by decide +kernel) (by decide +kernel) (by show c9 + 1 ≤ 66; omega) (by show s9 + 5 ≤ 1222; omega) dX2_init_29 (fun q_29 => ?_)
      refine wpw_dup hC dX2_init_32 rfl ?_
      refine wpw_callKI (As := []) hC hN k_X5_init gX2_init_X5_init (by decide +kernel) (by decide +kernel) (by decide +kernel) rfl ⟨by decide, by decide⟩ ⟨by show c9 + 1 + 4 ≤ 66; omega, by show s9 + 5 + 88 ≤ 1222; omega⟩ hkIX5_init rfl rfl (Nat.le_of_ble_eq_true rfl) dX2_init_33 (fun Y_33 hp_33 => ?_)
      obtain ⟨a2, e33, hY⟩ := hp_33
      subst hY
      subst e33
      refine wpw_aast (i := 1) (t := 4) (qk := (hsC K q ql f ++ stS K a i).length) (ci2 := 6) (r := (RX5, TX5, 5)) hC rfl rfl (by rw [List.getElem?_append_right (Nat.le_refl _), Nat.sub_self]; rfl) rfl (by decide) ⟨by omega, by omega⟩ rfl dX2_init_36 ?_
      refine wpw_iinc (lv2 := [(0, _), (1, .int (zI ((i : Int) + 1)))]) hC dX2_init_37 rfl rfl (by decide) ?_
      refine wpw_goto (tgt := 15) hC dX2_init_40 (by decide) ?_
      refine wpw_ws (ws2 := hsC K q ql (fun j => if j = i then some (a2 0) else f j) ++ stS K (fun j => if j = i then a2 else a j) (i + 1)) ?_ (ih (i + 1) (fun j => if j = i then a2 else a j) (fun j => if j = i then some (a2 0) else f j) _ _ (by omega) (by omega) (fun j hj => ?_) (by show c9 + 1 + 4 ≤ _; omega) (by show s9 + 5 + 88 ≤ _; omega))
      · have e1 : stS K (fun j => if j = i then a2 else a j) i = stS K a i := stS_congr (fun j hj => if_neg (by omega))
        have e2 : va_up f ((i : Int)).toNat (some (a2 0)) = (fun j => if j = i then some (a2 0) else f j) := by
          funext j
          unfold va_up
          rw [Int.toNat_natCast]
        show _ = hsC K q ql _ ++ (stS K (fun j => if j = i then a2 else a j) i ++ stC K (if i = i then a2 else a i))
        rw [e1, if_pos rfl, ← e2]
        rfl
      · by_cases h : j = i
        · rw [if_pos h, if_pos h]
        · rw [if_neg h, if_neg h]
          exact hf j (by omega)
  exact L15 13 0 (fun _ _ => 0) (fun _ => none) _ _ rfl (by decide) (fun j hj => absurd hj (by omega)) (by decide) (by decide)

theorem mkX8_11 : Cond.methodLinkNest RX8 11 yX0_init RX8 ∈ tables_1 := List.mem_of_getElem? (i := 33) (by decide +kernel)

theorem mkX8_35 : Cond.methodLinkNest RX8 35 yX7_init RX8 ∈ tables_1 := List.mem_of_getElem? (i := 131) (by decide +kernel)

theorem mkX8_42 : Cond.methodLinkNest RX8 42 yX6_init RX8 ∈ tables_1 := List.mem_of_getElem? (i := 152) (by decide +kernel)

theorem mkX8_49 : Cond.methodLinkNest RX8 49 yX1_init RX8 ∈ tables_1 := List.mem_of_getElem? (i := 166) (by decide +kernel)

theorem mkX8_63 : Cond.methodLinkNest RX8 63 yX3_init RX8 ∈ tables_1 := List.mem_of_getElem? (i := 211) (by decide +kernel)

theorem hkIX8_init : yX8_init.name = "<init>" ∧ yX8_init.cls ≠ "java/lang/invoke/MethodHandle" ∧ yX8_init.cls ≠ "java/lang/invoke/VarHandle" ∧ (parseMethodDescriptor yX8_init.desc).map (fun d => d.parameters.length) = some 0 := by decide +kernel

set_option maxHeartbeats 16000000 in
set_option maxRecDepth 100000 in
theorem k_X8_init {l : Launch} {D : va_G} {K : Nat → ClassId} {q : Nat} : MKv l yX8_init wsX8_init ({ frames := 3, cells := 100, slots := 4589, locals := 100 } : Room) D vwCl (tyk K) [.ref q] [(q, .inr (9, [.null, .null, .null, .null, .null, .null, .null, .null, .null, .null, .int (zI 0), .int (zI 0), .int (zI 0)]))] (fun X2 => ∃ (aB aN aQ : Nat → Nat) (qh ql : Nat) (aL : Nat → Nat → Nat) (fL : Nat → Option Nat) (aT aS aF aH aP : Nat → Nat) (qr : Nat), (∀ j, j < 13 → fL j = some (aL j 0)) ∧ X2 = [(q, .inr (9, [.ref (aB 0), .ref (aN 0), .ref (aQ 0), .ref qh, .ref (aT 0), .ref (aS 0), .ref (aF 0), .ref (aH 0), .ref (aP 0), .ref qr, .int (zI 0), .int (zI 0), .int (zI 0)]))] ++ bkC K aB ++ stC K aN ++ stC K aQ ++ (hsC K qh ql fL ++ stS K aL 13) ++ tpC K aT ++ spC K aS ++ flC K aF ++ shC K aH ++ prC K aP ++ [(qr, eI K 4)]) := by
  refine MKv.of (by decide +kernel) rfl rfl (Nat.le_of_ble_eq_true rfl) rfl ?_
  intro p e s m args below meth c Q hC hin hN hret
  refine wpw_aload_n hC dX8_init_0 rfl ?_
  refine wpw_objK hC (by decide +kernel) (by decide +kernel) (by decide +kernel) (Nat.le_of_ble_eq_true rfl) (Nat.le_of_ble_eq_true rfl) dX8_init_1 ?_
  refine wpw_aload_n hC dX8_init_4 rfl ?_
  refine wpw_newo (ci := 1) hC rfl (by decide +kernel) tyX0 tyX0_ok [.null, .null, .null, .null, .null, .int (zI 0)] (fun j hj => by rcases (show j = 0 ∨ j = 1 ∨ j = 2 ∨ j = 3 ∨ j = 4 ∨ j = 5 by omega) with rfl | rfl | rfl | rfl | rfl | rfl <;> rfl) (by decide +kernel) (by decide +kernel) (by decide +kernel) (Nat.le_of_ble_eq_true rfl) (Nat.le_of_ble_eq_true rfl) dX8_init_5 (fun q_5 => ?_)
  refine wpw_dup hC dX8_init_8 rfl ?_
  refine wpw_callKN (As := []) hC hN k_X0_init gX8_init_X0_init_n11 mkX8_11 (by decide +kernel) (by decide +kernel) rfl ⟨by decide, by decide⟩ ⟨(Nat.le_of_ble_eq_true rfl), (Nat.le_of_ble_eq_true rfl)⟩ hkIX0_init rfl rfl (Nat.le_of_ble_eq_true rfl) dX8_init_9 (fun Y_9 hp_9 => ?_)
  obtain ⟨aB, e9, hY9⟩ := hp_9
  subst hY9
  subst e9
  refine wpw_putF (i := 0) (k := 0) (T := TX8) (ty := .object "PromiseMind$Book") hC hin rfl rfl (by decide) (by decide +kernel) (by decide +kernel) tyX8 tyX8_ok nmX8 rfl rfl rfl rfl rfl (Nat.le_of_ble_eq_true rfl) rfl dX8_init_12 ?_
  refine wpw_aload_n hC dX8_init_15 rfl ?_
  refine wpw_newo (ci := 6) hC rfl (by decide +kernel) tyX5 tyX5_ok [.null, .null, .null, .null, .int (zI 0)] (fun j hj => by rcases (show j = 0 ∨ j = 1 ∨ j = 2 ∨ j = 3 ∨ j = 4 by omega) with rfl | rfl | rfl | rfl | rfl <;> rfl) (by decide +kernel) (by decide +kernel) (by decide +kernel) (Nat.le_of_ble_eq_true rfl) (Nat.le_of_ble_eq_true rfl) dX8_init_16 (fun q_16 => ?_)
  refine wpw_dup hC dX8_init_19 rfl ?_
  refine wpw_callKI (As := []) hC hN k_X5_init gX8_init_X5_init (by decide +kernel) (by decide +kernel) (by decide +kernel) rfl ⟨by decide, by decide⟩ ⟨(Nat.le_of_ble_eq_true rfl), (Nat.le_of_ble_eq_true rfl)⟩ hkIX5_init rfl rfl (Nat.le_of_ble_eq_true rfl) dX8_init_20 (fun Y_20 hp_20 => ?_)
  obtain ⟨aN, e20, hY20⟩ := hp_20
  subst hY20
  subst e20
  refine wpw_putF (i := 0) (k := 1) (T := TX8) (ty := .object "PromiseMind$State") hC hin rfl rfl (by decide) (by decide +kernel) (by decide +kernel) tyX8 tyX8_ok nmX8 rfl rfl rfl rfl rfl (Nat.le_of_ble_eq_true rfl) rfl dX8_init_23 ?_
  refine wpw_aload_n hC dX8_init_26 rfl ?_
  refine wpw_newo (ci := 6) hC rfl (by decide +kernel) tyX5 tyX5_ok [.null, .null, .null, .null, .int (zI 0)] (fun j hj => by rcases (show j = 0 ∨ j = 1 ∨ j = 2 ∨ j = 3 ∨ j = 4 by omega) with rfl | rfl | rfl | rfl | rfl <;> rfl) (by decide +kernel) (by decide +kernel) (by decide +kernel) (Nat.le_of_ble_eq_true rfl) (Nat.le_of_ble_eq_true rfl) dX8_init_27 (fun q_27 => ?_)
  refine wpw_dup hC dX8_init_30 rfl ?_
  refine wpw_callKI (As := []) hC hN k_X5_init gX8_init_X5_init (by decide +kernel) (by decide +kernel) (by decide +kernel) rfl ⟨by decide, by decide⟩ ⟨(Nat.le_of_ble_eq_true rfl), (Nat.le_of_ble_eq_true rfl)⟩ hkIX5_init rfl rfl (Nat.le_of_ble_eq_true rfl) dX8_init_31 (fun Y_31 hp_31 => ?_)
  obtain ⟨aQ, e31, hY31⟩ := hp_31
  subst hY31
  subst e31
  refine wpw_putF (i := 0) (k := 2) (T := TX8) (ty := .object "PromiseMind$State") hC hin rfl rfl (by decide) (by decide +kernel) (by decide +kernel) tyX8 tyX8_ok nmX8 rfl rfl rfl rfl rfl (Nat.le_of_ble_eq_true rfl) rfl dX8_init_34 ?_
  refine wpw_aload_n hC dX8_init_37 rfl ?_
  refine wpw_newo (ci := 3) hC rfl (by decide +kernel) tyX2 tyX2_ok [.null, .int (zI 0), .int (zI 0)] (fun j hj => by rcases (show j = 0 ∨ j = 1 ∨ j = 2 by omega) with rfl | rfl | rfl <;> rfl) (by decide +kernel) (by decide +kernel) (by decide +kernel) (Nat.le_of_ble_eq_true rfl) (Nat.le_of_ble_eq_true rfl) dX8_init_38 (fun q_38 => ?_)
  refine wpw_dup hC dX8_init_41 rfl ?_
  refine wpw_callKI (As := []) hC hN k_X2_init gX8_init_X2_init (by decide +kernel) (by decide +kernel) (by decide +kernel) rfl ⟨by decide, by decide⟩ ⟨(Nat.le_of_ble_eq_true rfl), (Nat.le_of_ble_eq_true rfl)⟩ hkIX2_init rfl rfl (Nat.le_of_ble_eq_true rfl) dX8_init_42 (fun Y_42 hp_42 => ?_)
  obtain ⟨ql, aL, fL, hL, hY42⟩ := hp_42
  subst hY42
  refine wpw_putF (i := 0) (k := 3) (T := TX8) (ty := .object "PromiseMind$History") hC hin rfl rfl (by decide) (by decide +kernel) (by decide +kernel) tyX8 tyX8_ok nmX8 rfl rfl rfl rfl rfl (Nat.le_of_ble_eq_true rfl) rfl dX8_init_45 ?_
  refine wpw_aload_n hC dX8_init_48 rfl ?_
  refine wpw_newo (ci := 8) hC rfl (by decide +kernel) tyX7 tyX7_ok [.null, .int (zI 0), .int (zI 0), .int (zI 0)] (fun j hj => by rcases (show j = 0 ∨ j = 1 ∨ j = 2 ∨ j = 3 by omega) with rfl | rfl | rfl | rfl <;> rfl) (by decide +kernel) (by decide +kernel) (by decide +kernel) (Nat.le_of_ble_eq_true rfl) (Nat.le_of_ble_eq_true rfl) dX8_init_49 (fun q_49 => ?_)
  refine wpw_dup hC dX8_init_52 rfl ?_
  refine wpw_callKN (As := []) hC hN k_X7_init gX8_init_X7_init_n35 mkX8_35 (by decide +kernel) (by decide +kernel) rfl ⟨by decide, by decide⟩ ⟨(Nat.le_of_ble_eq_true rfl), (Nat.le_of_ble_eq_true rfl)⟩ hkIX7_init rfl rfl (Nat.le_of_ble_eq_true rfl) dX8_init_53 (fun Y_53 hp_53 => ?_)
  obtain ⟨aT, e53, hY53⟩ := hp_53
  subst hY53
  subst e53
  refine wpw_putF (i := 0) (k := 4) (T := TX8) (ty := .object "PromiseMind$Tape") hC hin rfl rfl (by decide) (by decide +kernel) (by decide +kernel) tyX8 tyX8_ok nmX8 rfl rfl rfl rfl rfl (Nat.le_of_ble_eq_true rfl) rfl dX8_init_56 ?_
  refine wpw_aload_n hC dX8_init_59 rfl ?_
  refine wpw_newo (ci := 7) hC rfl (by decide +kernel) tyX6 tyX6_ok [.null, .null] (fun j hj => by rcases (show j = 0 ∨ j = 1 by omega) with rfl | rfl <;> rfl) (by decide +kernel) (by decide +kernel) (by decide +kernel) (Nat.le_of_ble_eq_true rfl) (Nat.le_of_ble_eq_true rfl) dX8_init_60 (fun q_60 => ?_)
  refine wpw_dup hC dX8_init_63 rfl ?_
  refine wpw_callKN (As := []) hC hN k_X6_init gX8_init_X6_init_n42 mkX8_42 (by decide +kernel) (by decide +kernel) rfl ⟨by decide, by decide⟩ ⟨(Nat.le_of_ble_eq_true rfl), (Nat.le_of_ble_eq_true rfl)⟩ hkIX6_init rfl rfl (Nat.le_of_ble_eq_true rfl) dX8_init_64 (fun Y_64 hp_64 => ?_)
  obtain ⟨aS, e64, hY64⟩ := hp_64
  subst hY64
  subst e64
  refine wpw_putF (i := 0) (k := 5) (T := TX8) (ty := .object "PromiseMind$Steps") hC hin rfl rfl (by decide) (by decide +kernel) (by decide +kernel) tyX8 tyX8_ok nmX8 rfl rfl rfl rfl rfl (Nat.le_of_ble_eq_true rfl) rfl dX8_init_67 ?_
  refine wpw_aload_n hC dX8_init_70 rfl ?_
  refine wpw_newo (ci := 2) hC rfl (by decide +kernel) tyX1 tyX1_ok [.null, .null, .null, .null, .null, .int (zI 0), .int (zI 0)] (fun j hj => by rcases (show j = 0 ∨ j = 1 ∨ j = 2 ∨ j = 3 ∨ j = 4 ∨ j = 5 ∨ j = 6 by omega) with rfl | rfl | rfl | rfl | rfl | rfl | rfl <;> rfl) (by decide +kernel) (by decide +kernel) (by decide +kernel) (Nat.le_of_ble_eq_true rfl) (Nat.le_of_ble_eq_true rfl) dX8_init_71 (fun q_71 => ?_)
  refine wpw_dup hC dX8_init_74 rfl ?_
  refine wpw_callKN (As := []) hC hN k_X1_init gX8_init_X1_init_n49 mkX8_49 (by decide +kernel) (by decide +kernel) rfl ⟨by decide, by decide⟩ ⟨(Nat.le_of_ble_eq_true rfl), (Nat.le_of_ble_eq_true rfl)⟩ hkIX1_init rfl rfl (Nat.le_of_ble_eq_true rfl) dX8_init_75 (fun Y_75 hp_75 => ?_)
  obtain ⟨aF, e75, hY75⟩ := hp_75
  subst hY75
  subst e75
  refine wpw_putF (i := 0) (k := 6) (T := TX8) (ty := .object "PromiseMind$Filling") hC hin rfl rfl (by decide) (by decide +kernel) (by decide +kernel) tyX8 tyX8_ok nmX8 rfl rfl rfl rfl rfl (Nat.le_of_ble_eq_true rfl) rfl dX8_init_78 ?_
  refine wpw_aload_n hC dX8_init_81 rfl ?_
  refine wpw_newo (ci := 5) hC rfl (by decide +kernel) tyX4 tyX4_ok [.null, .null] (fun j hj => by rcases (show j = 0 ∨ j = 1 by omega) with rfl | rfl <;> rfl) (by decide +kernel) (by decide +kernel) (by decide +kernel) (Nat.le_of_ble_eq_true rfl) (Nat.le_of_ble_eq_true rfl) dX8_init_82 (fun q_82 => ?_)
  refine wpw_dup hC dX8_init_85 rfl ?_
  refine wpw_callKI (As := []) hC hN k_X4_init gX8_init_X4_init (by decide +kernel) (by decide +kernel) (by decide +kernel) rfl ⟨by decide, by decide⟩ ⟨(Nat.le_of_ble_eq_true rfl), (Nat.le_of_ble_eq_true rfl)⟩ hkIX4_init rfl rfl (Nat.le_of_ble_eq_true rfl) dX8_init_86 (fun Y_86 hp_86 => ?_)
  obtain ⟨aH, e86, hY86⟩ := hp_86
  subst hY86
  subst e86
  refine wpw_putF (i := 0) (k := 7) (T := TX8) (ty := .object "PromiseMind$Shelves") hC hin rfl rfl (by decide) (by decide +kernel) (by decide +kernel) tyX8 tyX8_ok nmX8 rfl rfl rfl rfl rfl (Nat.le_of_ble_eq_true rfl) rfl dX8_init_89 ?_
  refine wpw_aload_n hC dX8_init_92 rfl ?_
  refine wpw_newo (ci := 4) hC rfl (by decide +kernel) tyX3 tyX3_ok [.null, .int (zI 0)] (fun j hj => by rcases (show j = 0 ∨ j = 1 by omega) with rfl | rfl <;> rfl) (by decide +kernel) (by decide +kernel) (by decide +kernel) (Nat.le_of_ble_eq_true rfl) (Nat.le_of_ble_eq_true rfl) dX8_init_93 (fun q_93 => ?_)
  refine wpw_dup hC dX8_init_96 rfl ?_
  refine wpw_callKN (As := []) hC hN k_X3_init gX8_init_X3_init_n63 mkX8_63 (by decide +kernel) (by decide +kernel) rfl ⟨by decide, by decide⟩ ⟨(Nat.le_of_ble_eq_true rfl), (Nat.le_of_ble_eq_true rfl)⟩ hkIX3_init rfl rfl (Nat.le_of_ble_eq_true rfl) dX8_init_97 (fun Y_97 hp_97 => ?_)
  obtain ⟨aP, e97, hY97⟩ := hp_97
  subst hY97
  subst e97
  refine wpw_putF (i := 0) (k := 8) (T := TX8) (ty := .object "PromiseMind$Print") hC hin rfl rfl (by decide) (by decide +kernel) (by decide +kernel) tyX8 tyX8_ok nmX8 rfl rfl rfl rfl rfl (Nat.le_of_ble_eq_true rfl) rfl dX8_init_100 ?_
  refine wpw_aload_n hC dX8_init_103 rfl ?_
  refine wpw_iconst hC dX8_init_104 ?_
  refine wpw_newI (t := 0) hC rfl ⟨by decide, by decide⟩ (by decide +kernel) (Nat.le_of_ble_eq_true rfl) (Nat.le_of_ble_eq_true rfl) dX8_init_105 (fun q_105 => ?_)
  refine wpw_putF (i := 0) (k := 9) (T := TX8) (ty := .array .int) hC hin rfl rfl (by decide) (by decide +kernel) (by decide +kernel) tyX8 tyX8_ok nmX8 rfl rfl rfl rfl rfl (Nat.le_of_ble_eq_true rfl) rfl dX8_init_107 ?_
  exact hret _ _ _ ⟨aB, aN, aQ, q_38, ql, aL, fL, aT, aS, aF, aH, aP, q_105, hL, rfl⟩ dX8_init_110
