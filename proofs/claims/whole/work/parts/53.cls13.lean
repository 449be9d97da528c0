theorem hyVX8_howMany : yX8_howMany.cls = RX8 ∧ yX8_howMany.cls ≠ "java/lang/invoke/MethodHandle" ∧ yX8_howMany.cls ≠ "java/lang/invoke/VarHandle" ∧ (parseMethodDescriptor yX8_howMany.desc).map (fun d => d.parameters.length) = some 1 := by decide +kernel
set_option maxHeartbeats 4000000 in
set_option maxRecDepth 100000 in
theorem c_X8_howMany {l : Launch} {G : Gy} (hG : Inj G) (σ : St) {w : Int} (h : XO σ) (hw : iR w) : ME l yX8_howMany wsX8_howMany ({ frames := 2, cells := 0, slots := 0, locals := 43 } : Room) G [.ref (G.2.2 82), .int (zI (w))] σ (pc (TX σ w)) σ := by
  refine MI.of hG (by decide +kernel) rfl rfl (Nat.le_of_ble_eq_true rfl) rfl ?_
  intro p e s m args below meth c H0 Q hC hret
  have hn := h.1
  have hr := pc_rng (TX σ w)
  refine wp_aload_n hC dX8_howMany_0 rfl ?_
  refine wp_iload_n hC dX8_howMany_1 rfl ?_
  refine wp_callVe (As := [_]) hC (c_X8_setOf hG _ (by omega) (fun o a b => (h.2.2 o a b).1) h.1) gX8_howMany_X8_setOf rfl ⟨rfl, rfl⟩ ⟨by decide, by decide⟩ hyVX8_setOf (rfl) (by decide) (rfl) rfl (Nat.le_of_ble_eq_true rfl) dX8_howMany_2 (fun hx_2 => ?_)
  refine wp_callSe (As := [_]) hC (c_J6_bitCount_0f7a4 hG σ (b := TX σ w) (bsI hn)) gX8_howMany_J6_bitCount_0f7a4 rfl ⟨rfl, rfl⟩ ⟨by decide, by decide⟩ hySJ6_bitCount_0f7a4 rfl (Nat.le_of_ble_eq_true rfl) dX8_howMany_5 (fun hx_5 => ?_)
  exact hret _ _ _ _ (by omega) rfl (⟨rfl, rfl⟩) dX8_howMany_8

theorem hyVX8_supplied : yX8_supplied.cls = RX8 ∧ yX8_supplied.cls ≠ "java/lang/invoke/MethodHandle" ∧ yX8_supplied.cls ≠ "java/lang/invoke/VarHandle" ∧ (parseMethodDescriptor yX8_supplied.desc).map (fun d => d.parameters.length) = some 2 := by decide +kernel
theorem uX8_supplied_X8 : ∀ w ∈ u_ws RX8 TX8 13, w ∈ wsX8_supplied := by decide +kernel
theorem fX8_supplied_19 : Cond.fieldLink RX8 19 (TX8 1).1 (TX8 1).2.1 (TX8 1).2.2.1 ∈ wsX8_supplied := by decide +kernel
theorem uX8_supplied_X5 : ∀ w ∈ u_ws RX5 TX5 5, w ∈ wsX8_supplied := by decide +kernel
set_option maxHeartbeats 4000000 in
set_option maxRecDepth 100000 in
theorem c_X8_supplied {l : Launch} {G : Gy} (hG : Inj G) (σ : St) {it p1 : Int} (h : XO σ) (hit : iR it) (hp : iR p1) : MP l yX8_supplied wsX8_supplied ({ frames := 3, cells := 0, slots := 0, locals := 63 } : Room) G [.ref (G.2.2 82), .int (zI (it)), .int (zI (p1))] σ (fun x => (¬ ((0 ≤ it ∧ it ≤ 2) ∧ (0 ≤ p1 ∧ p1 ≤ 11)) ∧ x = -1) ∨ (((0 ≤ it ∧ it ≤ 2) ∧ (0 ≤ p1 ∧ p1 ≤ 11)) ∧ x = σ 109 (12 * it + p1))) := by
  refine MI.of hG (by decide +kernel) rfl rfl (Nat.le_of_ble_eq_true rfl) rfl ?_
  intro p e s m args below meth c H0 Q hC hret
  refine wp_iload_n hC dX8_supplied_0 rfl ?_
  refine wp_iload_n hC dX8_supplied_1 rfl ?_
  refine wp_callSb (As := [_, _]) hC (c_X8_isSupply hG _ (by omega) (by omega)) gX8_supplied_X8_isSupply rfl ⟨rfl, rfl⟩ ⟨by decide, by decide⟩ hySX8_isSupply rfl (Nat.le_of_ble_eq_true rfl) dX8_supplied_2 (fun hx_2 => ?_)
  refine wp_ifb_ne (tgt := 10) hC dX8_supplied_5 (by decide) (fun c_5 => ?_) (fun c_5 => ?_)
  · refine wp_aload_n hC dX8_supplied_10 rfl ?_
    refine wp_geta (k := 1) hC (rfl) (by decide) (rfl) (rfl) (by decide) uX8_supplied_X8 fX8_supplied_19 (rfl) dX8_supplied_11 ?_
    refine wp_getaN (k := 0) hC (rfl) (by decide) (rfl) (rfl) (by decide) uX8_supplied_X5 fnX8_80 (rfl) dX8_supplied_14 ?_
    refine wp_iload_n hC dX8_supplied_17 rfl ?_
    refine wp_bipush hC dX8_supplied_18 rfl ?_
    refine wp_imul hC dX8_supplied_20 ?_
    refine wp_iload_n hC dX8_supplied_21 rfl ?_
    refine wp_iadd hC dX8_supplied_22 ?_
    refine wp_iald (n := 36) hC (rfl) (Nat.le_of_ble_eq_true rfl) (rfl) (by decide) (by omega) dX8_supplied_23 ?_
    have hw1 := h.2.1.1 (12 * it + p1) (by omega) (by omega)
    refine wp_top (b := σ 109 (12 * it + p1)) (by rw [Int.mul_comm 12 it]) ?_
    exact hret _ _ _ _ (by omega) rfl (⟨Or.inr ⟨c_5, rfl⟩, rfl⟩) dX8_supplied_24
  · refine wp_iconst hC dX8_supplied_8 ?_
    exact hret _ _ _ _ (by omega) rfl (⟨Or.inl ⟨c_5, rfl⟩, rfl⟩) dX8_supplied_9

theorem hyVX8_spare : yX8_spare.cls = RX8 ∧ yX8_spare.cls ≠ "java/lang/invoke/MethodHandle" ∧ yX8_spare.cls ≠ "java/lang/invoke/VarHandle" ∧ (parseMethodDescriptor yX8_spare.desc).map (fun d => d.parameters.length) = some 2 := by decide +kernel
theorem uX8_spare_X8 : ∀ w ∈ u_ws RX8 TX8 13, w ∈ wsX8_spare := by decide +kernel
theorem fX8_spare_43 : Cond.fieldLink RX8 43 (TX8 5).1 (TX8 5).2.1 (TX8 5).2.2.1 ∈ wsX8_spare := by decide +kernel
set_option maxHeartbeats 4000000 in
set_option maxRecDepth 100000 in
theorem c_X8_spare {l : Launch} {G : Gy} (hG : Inj G) (σ : St) {it la : Int} (h : XO σ) (hit : iR it) (hla : iR la) : MI l yX8_spare wsX8_spare ({ frames := 4, cells := 0, slots := 0, locals := 92 } : Room) G [.ref (G.2.2 82), .int (zI (it)), .int (zI (la))] σ (fun x σ2 => (¬ ((1 ≤ it ∧ it ≤ 7) ∧ (0 ≤ la ∧ la ≤ 11)) ∧ x = -1 ∧ σ2 = σ) ∨ (((1 ≤ it ∧ it ≤ 7) ∧ (0 ≤ la ∧ la ≤ 11)) ∧ σ2 = LY σ (TX σ 1) ∧ ((¬ MEX σ (tb (TX σ 1)) ∧ x = 0) ∨ (MEX σ (tb (TX σ 1)) ∧ ∃ y, LEA (LY σ (TX σ 1)) it la y ∧ x = max 0 y)))) := by
  refine MI.of hG (by decide +kernel) rfl rfl (Nat.le_of_ble_eq_true rfl) rfl ?_
  intro p e s m args below meth c H0 Q hC hret
  have hn := h.1
  refine wp_iload_n hC dX8_spare_0 rfl ?_
  refine wp_iconst hC dX8_spare_1 ?_
  refine wp_bipush hC dX8_spare_2 rfl ?_
  refine wp_callSb (As := [_, _, _]) hC (c_X8_within hG _ (by omega) (by omega) (by omega)) gX8_spare_X8_within rfl ⟨rfl, rfl⟩ ⟨by decide, by decide⟩ hySX8_within rfl (Nat.le_of_ble_eq_true rfl) dX8_spare_4 (fun hx_4 => ?_)
  refine wp_ifb_eq (tgt := 17) hC dX8_spare_7 (by decide) (fun c_7 => ?_) (fun c_7 => ?_)
  · refine wp_iconst hC dX8_spare_17 ?_
    exact hret _ _ _ _ (by omega) rfl (Or.inl ⟨fun z => c_7 z.1, rfl, rfl⟩) dX8_spare_18
  · refine wp_iload_n hC dX8_spare_10 rfl ?_
    refine wp_callSb (As := [_]) hC (c_X8_isPeriod hG _ (by omega)) gX8_spare_X8_isPeriod rfl ⟨rfl, rfl⟩ ⟨by decide, by decide⟩ hySX8_isPeriod rfl (Nat.le_of_ble_eq_true rfl) dX8_spare_11 (fun hx_11 => ?_)
    refine wp_ifb_ne (tgt := 19) hC dX8_spare_14 (by decide) (fun c_14 => ?_) (fun c_14 => ?_)
    · refine wp_aload_n hC dX8_spare_19 rfl ?_
      refine wp_aload_n hC dX8_spare_20 rfl ?_
      refine wp_iconst hC dX8_spare_21 ?_
      refine wp_callVe (As := [_]) hC (c_X8_setOf hG _ (by omega) (fun o a b => (h.2.2 o a b).1) h.1) gX8_spare_X8_setOf rfl ⟨rfl, rfl⟩ ⟨by decide, by decide⟩ hyVX8_setOf (rfl) (by decide) (rfl) rfl (Nat.le_of_ble_eq_true rfl) dX8_spare_22 (fun hx_22 => ?_)
      refine wp_callVi (As := [_]) hC (c_X8_areMet hG σ (B := TX σ 1) h (bsI hn)) gX8_spare_X8_areMet rfl ⟨rfl, rfl⟩ ⟨by decide, by decide⟩ hyVX8_areMet (rfl) (by decide) (rfl) rfl (Nat.le_of_ble_eq_true rfl) dX8_spare_25 (fun x_25 s_25 hx_25 hp_25 => ?_)
      obtain ⟨hm_25, rfl⟩ := hp_25
      refine wp_if_ne (tgt := 33) hC dX8_spare_28 (by decide) (bP_iR hm_25) (fun c_28 => ?_) (fun c_28 => ?_)
      · refine wp_iconst hC dX8_spare_33 ?_
        refine wp_aload_n hC dX8_spare_34 rfl ?_
        refine wp_geta (k := 5) hC (rfl) (by decide) (rfl) (rfl) (by decide) uX8_spare_X8 fX8_spare_43 (rfl) dX8_spare_35 ?_
        refine wp_iload_n hC dX8_spare_38 rfl ?_
        refine wp_iload_n hC dX8_spare_39 rfl ?_
        refine wp_callVp (As := [_, _]) hC (c_X6_least hG (LY σ (TX σ 1)) (it := it) (la := la) (by omega) c_14 (fun k a b => by have := LY_rng h (TX σ 1) a b; omega)) gX8_spare_X6_least rfl ⟨rfl, rfl⟩ ⟨by decide, by decide⟩ hyVX6_least (rfl) (by decide) (rfl) rfl (Nat.le_of_ble_eq_true rfl) dX8_spare_40 (fun x_40 hx_40 hp_40 => ?_)
        have hl_40 := LEA_iR hp_40 (fun k a b => LY_rng h (TX σ 1) a b)
        refine wp_mmax hC (by decide +kernel) (by decide +kernel) (by decide +kernel) (by decide +kernel) (Nat.le_of_ble_eq_true rfl) (Nat.le_of_ble_eq_true rfl) (by omega) (by omega) dX8_spare_43 ?_
        exact hret _ _ _ _ (by omega) rfl (Or.inr ⟨⟨c_7, c_14⟩, rfl, Or.inr ⟨bP_1 hm_25 c_28, _, hp_40, rfl⟩⟩) dX8_spare_46
      · refine wp_iconst hC dX8_spare_31 ?_
        exact hret _ _ _ _ (by omega) rfl (Or.inr ⟨⟨c_7, c_14⟩, rfl, Or.inl ⟨bP_0 hm_25 (by omega), rfl⟩⟩) dX8_spare_32
    · refine wp_iconst hC dX8_spare_17 ?_
      exact hret _ _ _ _ (by omega) rfl (Or.inl ⟨fun z => c_14 z.2, rfl, rfl⟩) dX8_spare_18
