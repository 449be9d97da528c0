theorem hyVX8_left : yX8_left.cls = RX8 ∧ yX8_left.cls ≠ "java/lang/invoke/MethodHandle" ∧ yX8_left.cls ≠ "java/lang/invoke/VarHandle" ∧ (parseMethodDescriptor yX8_left.desc).map (fun d => d.parameters.length) = some 1 := by decide +kernel
set_option maxHeartbeats 4000000 in
set_option maxRecDepth 100000 in
theorem c_X8_left {l : Launch} {G : Gy} (hG : Inj G) (σ : St) {u1 : Int} (h : XO σ) (hu : iR u1) : MP l yX8_left wsX8_left ({ frames := 2, cells := 0, slots := 0, locals := 49 } : Room) G [.ref (G.2.2 82), .int (zI (u1))] σ (fun x => (¬ (0 ≤ u1 ∧ u1 / 10000 < 13 ∧ u1 / 100 % 100 < 13 ∧ u1 % 100 < 13) ∧ x = -10000) ∨ ((0 ≤ u1 ∧ u1 / 10000 < 13 ∧ u1 / 100 % 100 < 13 ∧ u1 % 100 < 13) ∧ x = LFT (σ 109) (σ 83 5) (σ 84) (σ 85) (σ 112) (fun o => decide (σ 111 o = 1)) (u1 / 10000) (u1 / 100 % 100) (u1 % 100))) := by
  refine MI.of hG (by decide +kernel) rfl rfl (Nat.le_of_ble_eq_true rfl) rfl ?_
  intro p e s m args below meth c H0 Q hC hret
  have hdv : iR (u1.tdiv 100) := by
    rcases Int.le_total 0 u1 with z | z
    · rw [Int.tdiv_eq_ediv_of_nonneg z]; omega
    · have e9 : u1.tdiv 100 = -((-u1).tdiv 100) := by rw [Int.neg_tdiv, Int.neg_neg]
      rw [e9, Int.tdiv_eq_ediv_of_nonneg (by omega)]; omega
  refine wp_iload_n hC dX8_left_0 rfl ?_
  refine wp_sipush hC dX8_left_1 rfl ?_
  refine wp_idiv hC dX8_left_4 (by omega) (by omega) ?_
  refine wp_istore_n (lv2 := [(0, _), (1, _), (2, _)]) hC dX8_left_5 rfl (by decide) ?_
  refine wp_iload_n hC dX8_left_6 rfl ?_
  refine wp_bipush hC dX8_left_7 rfl ?_
  refine wp_idiv hC dX8_left_9 (by omega) (by omega) ?_
  refine wp_bipush hC dX8_left_10 rfl ?_
  refine wp_irem hC dX8_left_12 (hdv) (by omega) ?_
  refine wp_istore_n (lv2 := [(0, _), (1, _), (2, _), (3, _)]) hC dX8_left_13 rfl (by decide) ?_
  refine wp_iload_n hC dX8_left_14 rfl ?_
  refine wp_bipush hC dX8_left_15 rfl ?_
  refine wp_irem hC dX8_left_17 (by omega) (by omega) ?_
  refine wp_istore (lv2 := [(0, _), (1, _), (2, _), (3, _), (4, _)]) hC dX8_left_18 rfl (by decide) ?_
  refine wp_iload_n hC dX8_left_20 rfl ?_
  refine wp_if_lt (tgt := 43) hC dX8_left_21 (by decide) (by omega) (fun c_21 => ?_) (fun c_21 => ?_)
  · refine wp_sipush hC dX8_left_43 rfl ?_
    exact hret _ _ _ _ (by omega) rfl (⟨Or.inl ⟨fun z => by omega, rfl⟩, rfl⟩) dX8_left_46
  · have d1 : u1.tdiv 10000 = u1 / 10000 := Int.tdiv_eq_ediv_of_nonneg (by omega)
    have d0 : u1.tdiv 100 = u1 / 100 := Int.tdiv_eq_ediv_of_nonneg (by omega)
    have d2 : (u1.tdiv 100).tmod 100 = u1 / 100 % 100 := by rw [d0]; exact Int.tmod_eq_emod_of_nonneg (by omega)
    have d3 : u1.tmod 100 = u1 % 100 := Int.tmod_eq_emod_of_nonneg (by omega)
    rw [d1, d2, d3]
    refine wp_iload_n hC dX8_left_24 rfl ?_
    refine wp_bipush hC dX8_left_25 rfl ?_
    refine wp_icmp_ge (tgt := 43) hC dX8_left_27 (by decide) (by omega) (by omega) (fun c_27 => ?_) (fun c_27 => ?_)
    · refine wp_sipush hC dX8_left_43 rfl ?_
      exact hret _ _ _ _ (by omega) rfl (⟨Or.inl ⟨fun z => by omega, rfl⟩, rfl⟩) dX8_left_46
    · refine wp_iload_n hC dX8_left_30 rfl ?_
      refine wp_bipush hC dX8_left_31 rfl ?_
      refine wp_icmp_ge (tgt := 43) hC dX8_left_33 (by decide) (by omega) (by omega) (fun c_33 => ?_) (fun c_33 => ?_)
      · refine wp_sipush hC dX8_left_43 rfl ?_
        exact hret _ _ _ _ (by omega) rfl (⟨Or.inl ⟨fun z => by omega, rfl⟩, rfl⟩) dX8_left_46
      · refine wp_iload hC dX8_left_36 rfl ?_
        refine wp_bipush hC dX8_left_38 rfl ?_
        refine wp_icmp_lt (tgt := 47) hC dX8_left_40 (by decide) (by omega) (by omega) (fun c_40 => ?_) (fun c_40 => ?_)
        · refine wp_aload_n hC dX8_left_47 rfl ?_
          refine wp_iload_n hC dX8_left_48 rfl ?_
          refine wp_iload_n hC dX8_left_49 rfl ?_
          refine wp_iload hC dX8_left_50 rfl ?_
          refine wp_callVe (As := [_, _, _]) hC (c_X8_leftAt hG σ h (by omega) (by omega) (by omega)) gX8_left_X8_leftAt rfl ⟨rfl, rfl⟩ ⟨by decide, by decide⟩ hyVX8_leftAt (rfl) (by decide) (rfl) rfl (Nat.le_of_ble_eq_true rfl) dX8_left_52 (fun hx_52 => ?_)
          exact hret _ _ _ _ (hx_52) rfl (⟨Or.inr ⟨⟨by omega, by omega, by omega, by omega⟩, rfl⟩, rfl⟩) dX8_left_55
        · refine wp_sipush hC dX8_left_43 rfl ?_
          exact hret _ _ _ _ (by omega) rfl (⟨Or.inl ⟨fun z => by omega, rfl⟩, rfl⟩) dX8_left_46

theorem hyVX8_group : yX8_group.cls = RX8 ∧ yX8_group.cls ≠ "java/lang/invoke/MethodHandle" ∧ yX8_group.cls ≠ "java/lang/invoke/VarHandle" ∧ (parseMethodDescriptor yX8_group.desc).map (fun d => d.parameters.length) = some 2 := by decide +kernel
theorem uX8_group_X8 : ∀ w ∈ u_ws RX8 TX8 13, w ∈ wsX8_group := by decide +kernel
theorem fX8_group_19 : Cond.fieldLink RX8 19 (TX8 1).1 (TX8 1).2.1 (TX8 1).2.2.1 ∈ wsX8_group := by decide +kernel
theorem uX8_group_X5 : ∀ w ∈ u_ws RX5 TX5 5, w ∈ wsX8_group := by decide +kernel
set_option maxHeartbeats 4000000 in
set_option maxRecDepth 100000 in
theorem c_X8_group {l : Launch} {G : Gy} (hG : Inj G) (σ : St) {g wh : Int} (h : XO σ) (hg : iR g) (hw : iR wh) : MP l yX8_group wsX8_group ({ frames := 2, cells := 0, slots := 0, locals := 46 } : Room) G [.ref (G.2.2 82), .int (zI (g)), .int (zI (wh))] σ (fun x => (¬ ((0 ≤ g ∧ g ≤ 3) ∧ (0 ≤ wh ∧ wh ≤ 2)) ∧ x = -1) ∨ ((0 ≤ g ∧ g ≤ 3) ∧ ((wh = 0 ∧ x = σ 110 g) ∨ (wh = 1 ∧ x = σ 110 g * sm (σ 109) 36 / 100) ∨ (wh = 2 ∧ x = amS (σ 83 5) (σ 84) (σ 87) (tb (TX σ 1)) g)))) := by
  refine MI.of hG (by decide +kernel) rfl rfl (Nat.le_of_ble_eq_true rfl) rfl ?_
  intro p e s m args below meth c H0 Q hC hret
  have hn := h.1
  refine wp_iload_n hC dX8_group_0 rfl ?_
  refine wp_callSb (As := [_]) hC (c_X8_isGroup hG _ (by omega)) gX8_group_X8_isGroup rfl ⟨rfl, rfl⟩ ⟨by decide, by decide⟩ hySX8_isGroup rfl (Nat.le_of_ble_eq_true rfl) dX8_group_1 (fun hx_1 => ?_)
  refine wp_ifb_ne (tgt := 9) hC dX8_group_4 (by decide) (fun c_4 => ?_) (fun c_4 => ?_)
  · refine wp_iload_n hC dX8_group_9 rfl ?_
    rcases (show (wh < 0 ∨ 2 < wh) ∨ wh = 0 ∨ wh = 1 ∨ wh = 2 from by omega) with c_10 | c_10 | c_10 | c_10
    · refine wp_tabOut (tgt := 63) hC dX8_group_10 (by omega) c_10 (by decide) ?_
      refine wp_iconst hC dX8_group_63 ?_
      exact hret _ _ _ _ (by omega) rfl (⟨Or.inl ⟨fun z => by have := z.2; omega, rfl⟩, rfl⟩) dX8_group_64
    · refine wp_tabIn (tgt := 36) (v := 0) hC dX8_group_10 c_10 (by decide) (by decide) (by decide) rfl (by decide) ?_
      refine wp_aload_n hC dX8_group_36 rfl ?_
      refine wp_geta (k := 1) hC (rfl) (by decide) (rfl) (rfl) (by decide) uX8_group_X8 fX8_group_19 (rfl) dX8_group_37 ?_
      refine wp_getaN (k := 1) hC (rfl) (by decide) (rfl) (rfl) (by decide) uX8_group_X5 fnX8_90 (rfl) dX8_group_40 ?_
      refine wp_iload_n hC dX8_group_43 rfl ?_
      refine wp_iald (n := 4) hC (rfl) (Nat.le_of_ble_eq_true rfl) (rfl) (by decide) (by omega) dX8_group_44 ?_
      have hsg := h.2.1.2 g (by omega) (by omega)
      refine wp_top (b := σ 110 g) rfl ?_
      exact hret _ _ _ _ (by omega) rfl (⟨Or.inr ⟨c_4, Or.inl ⟨by omega, rfl⟩⟩, rfl⟩) dX8_group_45
    · refine wp_tabIn (tgt := 46) (v := 1) hC dX8_group_10 c_10 (by decide) (by decide) (by decide) rfl (by decide) ?_
      refine wp_aload_n hC dX8_group_46 rfl ?_
      refine wp_iload_n hC dX8_group_47 rfl ?_
      refine wp_callVe (As := [_]) hC (c_X8_cutOf hG _ h (by omega)) gX8_group_X8_cutOf rfl ⟨rfl, rfl⟩ ⟨by decide, by decide⟩ hyVX8_cutOf (rfl) (by decide) (rfl) rfl (Nat.le_of_ble_eq_true rfl) dX8_group_48 (fun hx_48 => ?_)
      exact hret _ _ _ _ (hx_48) rfl (⟨Or.inr ⟨c_4, Or.inr (Or.inl ⟨by omega, rfl⟩)⟩, rfl⟩) dX8_group_51
    · refine wp_tabIn (tgt := 52) (v := 2) hC dX8_group_10 c_10 (by decide) (by decide) (by decide) rfl (by decide) ?_
      refine wp_aload_n hC dX8_group_52 rfl ?_
      refine wp_iload_n hC dX8_group_53 rfl ?_
      refine wp_aload_n hC dX8_group_54 rfl ?_
      refine wp_iconst hC dX8_group_55 ?_
      refine wp_callVe (As := [_]) hC (c_X8_setOf hG _ (by omega) (fun o a b => (h.2.2 o a b).1) h.1) gX8_group_X8_setOf rfl ⟨rfl, rfl⟩ ⟨by decide, by decide⟩ hyVX8_setOf (rfl) (by decide) (rfl) rfl (Nat.le_of_ble_eq_true rfl) dX8_group_56 (fun hx_56 => ?_)
      refine wp_callVe (As := [_, _]) hC (c_X8_amountOf hG σ (B := TX σ 1) h (by omega) (bsI hn)) gX8_group_X8_amountOf rfl ⟨rfl, rfl⟩ ⟨by decide, by decide⟩ hyVX8_amountOf (rfl) (by decide) (rfl) rfl (Nat.le_of_ble_eq_true rfl) dX8_group_59 (fun hx_59 => ?_)
      exact hret _ _ _ _ (hx_59) rfl (⟨Or.inr ⟨c_4, Or.inr (Or.inr ⟨by omega, rfl⟩)⟩, rfl⟩) dX8_group_62
  · refine wp_iconst hC dX8_group_7 ?_
    exact hret _ _ _ _ (by omega) rfl (⟨Or.inl ⟨fun z => c_4 z.1, rfl⟩, rfl⟩) dX8_group_8

def HIN (σ : St) (o p1 x : Int) (σ2 : St) : Prop := (¬ ((0 ≤ o ∧ o < σ 83 5) ∧ (-1 ≤ p1 ∧ p1 ≤ 0)) ∧ x = -1 ∧ σ2 = σ) ∨ (((0 ≤ o ∧ o < σ 83 5) ∧ (-1 ≤ p1 ∧ p1 ≤ 0)) ∧ ((σ 111 o ≠ 0 ∧ x = -5 ∧ σ2 = σ) ∨ (σ 111 o = 0 ∧ σ2 = LY σ (ior (TX σ 1) (pw o)) ∧ ∃ j, fst (LY σ (ior (TX σ 1) (pw o)) 92) 2197 j ∧ ((0 ≤ LY σ (ior (TX σ 1) (pw o)) 92 j ∧ x = -2) ∨ (LY σ (ior (TX σ 1) (pw o)) 92 j < 0 ∧ ((p1 = -1 ∧ x = stp j) ∨ (p1 = 0 ∧ x = 100000 + LY σ (ior (TX σ 1) (pw o)) 92 j)))))))

theorem hyVX8_hinders : yX8_hinders.cls = RX8 ∧ yX8_hinders.cls ≠ "java/lang/invoke/MethodHandle" ∧ yX8_hinders.cls ≠ "java/lang/invoke/VarHandle" ∧ (parseMethodDescriptor yX8_hinders.desc).map (fun d => d.parameters.length) = some 2 := by decide +kernel
theorem uX8_hinders_X8 : ∀ w ∈ u_ws RX8 TX8 13, w ∈ wsX8_hinders := by decide +kernel
theorem fX8_hinders_19 : Cond.fieldLink RX8 19 (TX8 1).1 (TX8 1).2.1 (TX8 1).2.2.1 ∈ wsX8_hinders := by decide +kernel
theorem uX8_hinders_X5 : ∀ w ∈ u_ws RX5 TX5 5, w ∈ wsX8_hinders := by decide +kernel
theorem fX8_hinders_43 : Cond.fieldLink RX8 43 (TX8 5).1 (TX8 5).2.1 (TX8 5).2.2.1 ∈ wsX8_hinders := by decide +kernel
theorem fX8_hinders_12 : Cond.fieldLink RX8 12 (TX8 0).1 (TX8 0).2.1 (TX8 0).2.2.1 ∈ wsX8_hinders := by decide +kernel
set_option maxHeartbeats 4000000 in
set_option maxRecDepth 100000 in
theorem c_X8_hinders {l : Launch} {G : Gy} (hG : Inj G) (σ : St) {o p1 : Int} (h : XO σ) (ho : iR o) (hp : iR p1) : MI l yX8_hinders wsX8_hinders ({ frames := 3, cells := 0, slots := 0, locals := 71 } : Room) G [.ref (G.2.2 82), .int (zI (o)), .int (zI (p1))] σ (HIN σ o p1) := by
  refine MI.of hG (by decide +kernel) rfl rfl (Nat.le_of_ble_eq_true rfl) rfl ?_
  intro p e s m args below meth c H0 Q hC hret
  have hn := h.1
  refine wp_aload_n hC dX8_hinders_0 rfl ?_
  refine wp_iload_n hC dX8_hinders_1 rfl ?_
  refine wp_callVb (As := [_]) hC (c_X8_isOrder hG _ (by omega) h.1) gX8_hinders_X8_isOrder rfl ⟨rfl, rfl⟩ ⟨by decide, by decide⟩ hyVX8_isOrder (rfl) (by decide) (rfl) rfl (Nat.le_of_ble_eq_true rfl) dX8_hinders_2 (fun hx_2 => ?_)
  refine wp_ifb_eq (tgt := 17) hC dX8_hinders_5 (by decide) (fun c_5 => ?_) (fun c_5 => ?_)
  · refine wp_iconst hC dX8_hinders_17 ?_
    exact hret _ _ _ _ (by omega) rfl (Or.inl ⟨fun z => c_5 z.1, rfl, rfl⟩) dX8_hinders_18
  · refine wp_iload_n hC dX8_hinders_8 rfl ?_
    refine wp_iconst hC dX8_hinders_9 ?_
    refine wp_iconst hC dX8_hinders_10 ?_
    refine wp_callSb (As := [_, _, _]) hC (c_X8_within hG σ hp (by omega) (by omega)) gX8_hinders_X8_within rfl ⟨rfl, rfl⟩ ⟨by decide, by decide⟩ hySX8_within rfl (Nat.le_of_ble_eq_true rfl) dX8_hinders_11 (fun hx_11 => ?_)
    refine wp_ifb_ne (tgt := 19) hC dX8_hinders_14 (by decide) (fun c_14 => ?_) (fun c_14 => ?_)
    · refine wp_aload_n hC dX8_hinders_19 rfl ?_
      refine wp_geta (k := 1) hC (rfl) (by decide) (rfl) (rfl) (by decide) uX8_hinders_X8 fX8_hinders_19 (rfl) dX8_hinders_20 ?_
      refine wp_getaN (k := 2) hC (rfl) (by decide) (rfl) (rfl) (by decide) uX8_hinders_X5 fnX8_124 (rfl) dX8_hinders_23 ?_
      refine wp_iload_n hC dX8_hinders_26 rfl ?_
      refine wp_iald (n := 24) hC (rfl) (Nat.le_of_ble_eq_true rfl) (rfl) (by decide) (by omega) dX8_hinders_27 ?_
      have hk1 := (h.2.2 o c_5.1 c_5.2).1
      refine wp_top (b := σ 111 o) rfl ?_
      refine wp_if_eq (tgt := 34) hC dX8_hinders_28 (by decide) (by omega) (fun c_28 => ?_) (fun c_28 => ?_)
      · refine wp_aload_n hC dX8_hinders_34 rfl ?_
        refine wp_geta (k := 5) hC (rfl) (by decide) (rfl) (rfl) (by decide) uX8_hinders_X8 fX8_hinders_43 (rfl) dX8_hinders_35 ?_
        refine wp_aload_n hC dX8_hinders_38 rfl ?_
        refine wp_geta (k := 0) hC (rfl) (by decide) (rfl) (rfl) (by decide) uX8_hinders_X8 fX8_hinders_12 (rfl) dX8_hinders_39 ?_
        refine wp_aload_n hC dX8_hinders_42 rfl ?_
        refine wp_geta (k := 1) hC (rfl) (by decide) (rfl) (rfl) (by decide) uX8_hinders_X8 fX8_hinders_19 (rfl) dX8_hinders_43 ?_
        refine wp_aload_n hC dX8_hinders_46 rfl ?_
        refine wp_iconst hC dX8_hinders_47 ?_
        refine wp_callVe (As := [_]) hC (c_X8_setOf hG _ (by omega) (fun o a b => (h.2.2 o a b).1) h.1) gX8_hinders_X8_setOf rfl ⟨rfl, rfl⟩ ⟨by decide, by decide⟩ hyVX8_setOf (rfl) (by decide) (rfl) rfl (Nat.le_of_ble_eq_true rfl) dX8_hinders_48 (fun hx_48 => ?_)
        refine wp_iload_n hC dX8_hinders_51 rfl ?_
        refine wp_callSe (As := [_]) hC (c_X8_bit hG σ (k := o) (by omega)) gX8_hinders_X8_bit rfl ⟨rfl, rfl⟩ ⟨by decide, by decide⟩ hySX8_bit rfl (Nat.le_of_ble_eq_true rfl) dX8_hinders_52 (fun hx_52 => ?_)
        have hpw := pwI (k := o) (by omega) (by omega)
        have hor := ior_nn (bsI (P := fun o => decide (σ 111 o = 1)) hn) hpw
        refine wp_ior hC dX8_hinders_55 ?_
        refine wp_callVu (As := [_, _, _]) hC (c_X6_lay hG σ (B := ior (TX σ 1) (pw o)) h hor) gX8_hinders_X6_lay rfl ⟨rfl, rfl⟩ ⟨by decide, by decide⟩ hyVX6_lay (rfl) (by decide) (rfl) rfl (Nat.le_of_ble_eq_true rfl) dX8_hinders_56 ?_
        refine wp_aload_n hC dX8_hinders_59 rfl ?_
        refine wp_geta (k := 5) hC (rfl) (by decide) (rfl) (rfl) (by decide) uX8_hinders_X8 fX8_hinders_43 (rfl) dX8_hinders_60 ?_
        refine wp_callVp (As := []) hC (c_X6_tightest hG (LY σ (ior (TX σ 1) (pw o))) (fun k a b => by have := LY_rng h (ior (TX σ 1) (pw o)) a b; omega)) gX8_hinders_X6_tightest rfl ⟨rfl, rfl⟩ ⟨by decide, by decide⟩ hyVX6_tightest (rfl) (by decide) (rfl) rfl (Nat.le_of_ble_eq_true rfl) dX8_hinders_63 (fun x_63 hx_63 hp_63 => ?_)
        have hr_63 := LY_rng h (ior (TX σ 1) (pw o)) hp_63.1 hp_63.2.1
        refine wp_istore_n (lv2 := [(0, _), (1, _), (2, _), (3, _)]) hC dX8_hinders_66 rfl (by decide) ?_
        refine wp_aload_n hC dX8_hinders_67 rfl ?_
        refine wp_geta (k := 5) hC (rfl) (by decide) (rfl) (rfl) (by decide) uX8_hinders_X8 fX8_hinders_43 (rfl) dX8_hinders_68 ?_
        refine wp_iload_n hC dX8_hinders_71 rfl ?_
        refine wp_callVe (As := [_]) hC (c_X6_leftIn hG (LY σ (ior (TX σ 1) (pw o))) ⟨hp_63.1, hp_63.2.1⟩ (by omega)) gX8_hinders_X6_leftIn rfl ⟨rfl, rfl⟩ ⟨by decide, by decide⟩ hyVX6_leftIn (rfl) (by decide) (rfl) rfl (Nat.le_of_ble_eq_true rfl) dX8_hinders_72 (fun hx_72 => ?_)
        refine wp_istore (lv2 := [(0, _), (1, _), (2, _), (3, _), (4, _)]) hC dX8_hinders_75 rfl (by decide) ?_
        refine wp_iload hC dX8_hinders_77 rfl ?_
        refine wp_if_lt (tgt := 85) hC dX8_hinders_79 (by decide) (by omega) (fun c_79 => ?_) (fun c_79 => ?_)
        · refine wp_iload_n hC dX8_hinders_85 rfl ?_
          refine wp_iconst hC dX8_hinders_86 ?_
          refine wp_icmp_ne (tgt := 97) hC dX8_hinders_87 (by decide) (by omega) (by omega) (fun c_87 => ?_) (fun c_87 => ?_)
          · refine wp_ldc (n := 100000) hC dX8_hinders_97 (by decide +kernel) ?_
            refine wp_iload hC dX8_hinders_99 rfl ?_
            refine wp_iadd hC dX8_hinders_101 ?_
            exact hret _ _ _ _ (by omega) rfl (Or.inr ⟨⟨c_5, c_14⟩, Or.inr ⟨by omega, rfl, _, hp_63, Or.inr ⟨by omega, Or.inr ⟨by omega, rfl⟩⟩⟩⟩) dX8_hinders_102
          · refine wp_iload_n hC dX8_hinders_90 rfl ?_
            refine wp_callSe (As := [_]) hC (c_X8_stepOf hG (LY σ (ior (TX σ 1) (pw o))) ⟨hp_63.1, hp_63.2.1⟩) gX8_hinders_X8_stepOf rfl ⟨rfl, rfl⟩ ⟨by decide, by decide⟩ hySX8_stepOf rfl (Nat.le_of_ble_eq_true rfl) dX8_hinders_91 (fun hx_91 => ?_)
            refine wp_goto (tgt := 102) hC dX8_hinders_94 (by decide) ?_
            exact hret _ _ _ _ (hx_91) rfl (Or.inr ⟨⟨c_5, c_14⟩, Or.inr ⟨by omega, rfl, _, hp_63, Or.inr ⟨by omega, Or.inl ⟨by omega, rfl⟩⟩⟩⟩) dX8_hinders_102
        · refine wp_bipush hC dX8_hinders_82 rfl ?_
          exact hret _ _ _ _ (by omega) rfl (Or.inr ⟨⟨c_5, c_14⟩, Or.inr ⟨by omega, rfl, _, hp_63, Or.inl ⟨by omega, rfl⟩⟩⟩) dX8_hinders_84
      · refine wp_bipush hC dX8_hinders_31 rfl ?_
        exact hret _ _ _ _ (by omega) rfl (Or.inr ⟨⟨c_5, c_14⟩, Or.inl ⟨c_28, rfl, rfl⟩⟩) dX8_hinders_33
    · refine wp_iconst hC dX8_hinders_17 ?_
      exact hret _ _ _ _ (by omega) rfl (Or.inl ⟨fun z => c_14 z.2, rfl, rfl⟩) dX8_hinders_18
