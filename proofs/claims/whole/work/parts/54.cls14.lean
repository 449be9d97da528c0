theorem hyVX8_left : yX8_left.cls = RX8 ∧ yX8_left.cls ≠ "java/lang/invoke/MethodHandle" ∧ yX8_left.cls ≠ "java/lang/invoke/VarHandle" ∧ (parseMethodDescriptor yX8_left.desc).map (fun d => d.parameters.length) = some 1 := by decide +kernel
set_option maxHeartbeats 4000000 in
set_option maxRecDepth 100000 in
theorem c_X8_left {l : Launch} {G : Gy} (hG : Inj G) (σ : St) {u1 : Int} (h : XO σ) (hu : iR u1) : MP l yX8_left wsX8_left ({ frames := 2, cells := 0, slots := 0, locals := 49 } : Room) G [.ref (G.2.2 82), .int (zI (u1))] σ (fun x => (¬ (0 ≤ u1 ∧ u1 / 10000 < 13 ∧ u1 / 100 % 100 < 13 ∧ u1 % 100 < 13) ∧ x = -10000) ∨ ((0 ≤ u1 ∧ u1 / 10000 < 13 ∧ u1 / 100 % 100 < 13 ∧ u1 % 100 < 13) ∧ x = LFT (σ 109) (σ 83 5) (σ 84) (σ 85) (σ 112) (fun o => decide (σ 111 o = 1)) (u1 / 10000) (u1 / 100 % 100) (u1 % 100))) := by
  refine MI.of hG (by decide +kernel) rfl rfl (Nat.le_of_ble_eq_true rfl) rfl ?_
  intro p e s m args below meth c H0 Q hC hret
  have hdv : iR (u1.tdiv 100) := by
    rcases Int.le_total 0 u1 with z | z
    · rw [Int.tdiv_eq_ediv_of_nonneg z]; omega
    · have e9 : u1.tdiv 100 = -((-u1).tdiv 100) := by rw [Int.neg_tdiv, Int.neg_neg]
      rw [e9, Int.tdiv_eq_ediv_of_nonneg (by omega)]; omega
  refine wp_iload_n hC dX8_left_0 rfl ?_
  refine wp_sipush hC dX8_left_1 rfl ?_
  refine wp_idiv hC dX8_left_4 (by omega) (by omega) ?_
  refine wp_istore_n (lv2 := [(0, _), (1, _), (2, _)]) hC dX8_left_5 rfl (by decide) ?_
  refine wp_iload_n hC dX8_left_6 rfl ?_
  refine wp_bipush hC dX8_left_7 rfl ?_
  refine wp_idiv hC dX8_left_9 (by omega) (by omega) ?_
  refine wp_bipush hC dX8_left_10 rfl ?_
  refine wp_irem hC dX8_left_12 (hdv) (by omega) ?_
  refine wp_istore_n (lv2 := [(0, _), (1, _), (2, _), (3, _)]) hC dX8_left_13 rfl (by decide) ?_
  refine wp_iload_n hC dX8_left_14 rfl ?_
  refine wp_bipush hC dX8_left_15 rfl ?_
  refine wp_irem hC dX8_left_17 (by omega) (by omega) ?_
  refine wp_istore (lv2 := [(0, _), (1, _), (2, _), (3, _), (4, _)]) hC dX8_left_18 rfl (by decide) ?_
  refine wp_iload_n hC dX8_left_20 rfl ?_
  refine wp_if_lt (tgt := 43) hC dX8_left_21 (by decide) (by omega) (fun c_21 => ?_) (fun c_21 => ?_)
  · refine wp_sipush hC dX8_left_43 rfl ?_
    exact hret _ _ _ _ (by omega) rfl (⟨Or.inl ⟨fun z => by omega, rfl⟩, rfl⟩) dX8_left_46
  · have d1 : u1.tdiv 10000 = u1 / 10000 := Int.tdiv_eq_ediv_of_nonneg (by omega)
    have d0 : u1.tdiv 100 = u1 / 100 := Int.tdiv_eq_ediv_of_nonneg (by omega)
    have d2 : (u1.tdiv 100).tmod 100 = u1 / 100 % 100 := by rw [d0]; exact Int.tmod_eq_emod_of_nonneg (by omega)
    have d3 : u1.tmod 100 = u1 % 100 := Int.tmod_eq_emod_of_nonneg (by omega)
    rw [d1, d2, d3]
    refine wp_iload_n hC dX8_left_24 rfl ?_
    refine wp_bipush hC dX8_left_25 rfl ?_
    refine wp_icmp_ge (tgt := 43) hC dX8_left_27 (by decide) (by omega) (by omega) (fun c_27 => ?_) (fun c_27 => ?_)
    · refine wp_sipush hC dX8_left_43 rfl ?_
      exact hret _ _ _ _ (by omega) rfl (⟨Or.inl ⟨fun z => by omega, rfl⟩, rfl⟩) dX8_left_46
    · refine wp_iload_n hC dX8_left_30 rfl ?_
      refine wp_bipush hC dX8_left_31 rfl ?_
      refine wp_icmp_ge (tgt := 43) hC dX8_left_33 (by decide) (by omega) (by omega) (fun c_33 => ?_) (fun c_33 => ?_)
      · refine wp_sipush hC dX8_left_43 rfl ?_
        exact hret _ _ _ _ (by omega) rfl (⟨Or.inl ⟨fun z => by omega, rfl⟩, rfl⟩) dX8_left_46
      · refine wp_iload hC dX8_left_36 rfl ?_
        refine wp_bipush hC dX8_left_38 rfl ?_
        refine wp_icmp_lt (tgt := 47) hC dX8_left_40 (by decide) (by omega) (by omega) (fun c_40 => ?_) (fun c_40 => ?_)
        · refine wp_aload_n hC dX8_left_47 rfl ?_
          refine wp_iload_n hC dX8_left_48 rfl ?_
          refine wp_iload_n hC dX8_left_49 rfl ?_
          refine wp_iload hC dX8_left_50 rfl ?_
          refine wp_callVe (As := [_, _, _]) hC (c_X8_leftAt hG σ h (by omega) (by omega) (by omega)) gX8_left_X8_leftAt rfl ⟨rfl, rfl⟩ ⟨by decide, by decide⟩ hyVX8_leftAt (rfl) (by decide) (rfl) rfl (Nat.le_of_ble_eq_true rfl) dX8_left_52 (fun hx_52 => ?_)
          exact hret _ _ _ _ (hx_52) rfl (⟨Or.inr ⟨⟨by omega, by omega, by omega, by omega⟩, rfl⟩, rfl⟩) dX8_left_55
        · refine wp_sipush hC dX8_left_43 rfl ?_
          exact hret _ _ _ _ (by omega) rfl (⟨Or.inl ⟨fun z => by omega, rfl⟩, rfl⟩) dX8_left_46
