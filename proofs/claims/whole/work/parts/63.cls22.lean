/-- all but scratch cells -/
def EQ (ρ σ : St) : Prop := ∀ a b, scr a b = false → ρ a b = σ a b
theorem EQ_0 {σ : St} : EQ σ σ := fun _ _ _ => rfl
theorem EQ_t {σ ρ τ : St} (h : EQ ρ σ) (h2 : EQ τ ρ) : EQ τ σ := fun a b x => (h2 a b x).trans (h a b x)
theorem EQ_K {σ ρ : St} (h : EQ ρ σ) : EQK ρ σ := fun a b x _ => h a b x
theorem EQ_LY {σ ρ : St} {B : Int} (h : EQ ρ σ) : EQ (LY ρ B) σ := fun a b x => by
  rw [← h a b x]
  unfold LY RW UPk
  rw [if_neg (fun z => by rw [z.1] at x; cases x), if_neg (fun z => by rw [z.1] at x; cases x)]
theorem EQ_put {σ ρ : St} {i : Nat} {k v : Int} (h : EQ ρ σ) : EQ (put ρ i k v) (put σ i k v) := fun a b x => by
  unfold put
  split
  · rfl
  · exact h a b x
theorem EQ_h {σ ρ : St} (h : EQ ρ σ) {a : Nat} (ha : 83 ≤ a ∧ a ≤ 88 ∨ 106 ≤ a) : ρ a = σ a := EQK_h (EQ_K h) ha
theorem scr_106 {b : Int} : scr 106 b = false := scr_hi (by omega)
theorem scr_82 {b : Int} : scr 82 b = false := rfl
theorem XL_E {σ ρ : St} (h : XL σ) (e : EQK ρ σ) : XL ρ := XL_c h (fun a b z => by rw [EQK_h e (by omega)])
theorem NT2_EQ {σ ρ : St} (h : EQ ρ σ) : EQ (NT2 ρ) (NT2 σ) := by
  unfold NT2
  refine EQ_put (fun a b x => ?_)
  unfold NT1
  rw [h 106 1 scr_106]
  split
  · exact EQ_put h a b x
  · unfold DROP
    rw [EQ_h h (a := 107) (by omega), h a b x]
theorem NOTE_EQ {σ ρ : St} {n : Int} (h : EQ ρ σ) : EQ (NOTE ρ n) (NOTE σ n) := fun a b x => by
  have h2 := NT2_EQ h
  unfold NOTE
  rw [EQ_h h2 (a := 107) (by omega), EQ_h h2 (a := 106) (by omega), CPY_at, CPY_at, EQ_h h2 (a := 109 + 5 * 0) (by omega), EQ_h h2 (a := 110 + 5 * 0) (by omega), EQ_h h2 (a := 111 + 5 * 0) (by omega), EQ_h h2 (a := 112 + 5 * 0) (by omega), h2 a b x]
theorem NCH_EQ {σ ρ : St} (h : EQ ρ σ) : EQ (NCH ρ) (NCH σ) := by
  unfold NCH
  rw [EQ_h h (a := 83) (by omega)]
  exact NOTE_EQ (EQ_put h)
def CANX (σ : St) (o : Int) (P Q : Int → Bool) : Prop := σ 84 o ≤ ROOM σ (σ 87 o) P ∧ MEX σ Q

theorem hyVX8_promise : yX8_promise.cls = RX8 ∧ yX8_promise.cls ≠ "java/lang/invoke/MethodHandle" ∧ yX8_promise.cls ≠ "java/lang/invoke/VarHandle" ∧ (parseMethodDescriptor yX8_promise.desc).map (fun d => d.parameters.length) = some 1 := by decide +kernel
theorem uX8_promise_X8 : ∀ w ∈ u_ws RX8 TX8 13, w ∈ wsX8_promise := by decide +kernel
theorem fX8_promise_19 : Cond.fieldLink RX8 19 (TX8 1).1 (TX8 1).2.1 (TX8 1).2.2.1 ∈ wsX8_promise := by decide +kernel
theorem uX8_promise_X5 : ∀ w ∈ u_ws RX5 TX5 5, w ∈ wsX8_promise := by decide +kernel
theorem fX8_promise_12 : Cond.fieldLink RX8 12 (TX8 0).1 (TX8 0).2.1 (TX8 0).2.2.1 ∈ wsX8_promise := by decide +kernel
theorem uX8_promise_X0 : ∀ w ∈ u_ws RX0 TX0 6, w ∈ wsX8_promise := by decide +kernel
set_option maxHeartbeats 4000000 in
set_option maxRecDepth 100000 in
theorem c_X8_promise {l : Launch} {G : Gy} (hG : Inj G) (σ : St) {o : Int} (h : XO σ) (hL : XL σ) (ho : iR o) : MI l yX8_promise wsX8_promise ({ frames := 5, cells := 0, slots := 0, locals := 104 } : Room) G [.ref (G.2.2 82), .int (zI (o))] σ (fun x σ2 => (¬ (0 ≤ o ∧ o < σ 83 5) ∧ x = -1 ∧ σ2 = σ) ∨ ((0 ≤ o ∧ o < σ 83 5) ∧ σ 111 o ≠ 0 ∧ x = -5 ∧ σ2 = σ) ∨ ((0 ≤ o ∧ o < σ 83 5) ∧ σ 111 o = 0 ∧ ¬ CANX σ o (tb (TX σ 1)) (tb (ior (TX σ 1) (pw o))) ∧ x = -2 ∧ EQ σ2 σ) ∨ ((0 ≤ o ∧ o < σ 83 5) ∧ σ 111 o = 0 ∧ CANX σ o (tb (TX σ 1)) (tb (ior (TX σ 1) (pw o))) ∧ (x = pc (TX (put σ 111 o 1) 1) ∧ EQ σ2 (NCH (put σ 111 o 1))))) := by
  refine MI.of hG (by decide +kernel) rfl rfl (Nat.le_of_ble_eq_true rfl) rfl ?_
  intro p e s m args below meth c H0 Q hC hret
  have hn := h.1
  have hTr := bsI (P := fun o => decide (σ 111 o = 1)) hn
  refine wp_aload_n hC dX8_promise_0 rfl ?_
  refine wp_iload_n hC dX8_promise_1 rfl ?_
  refine wp_callVb (As := [_]) hC (c_X8_isOrder hG _ (by omega) h.1) gX8_promise_X8_isOrder rfl ⟨rfl, rfl⟩ ⟨by decide, by decide⟩ hyVX8_isOrder (rfl) (by decide) (rfl) rfl (Nat.le_of_ble_eq_true rfl) dX8_promise_2 (fun hx_2 => ?_)
  refine wp_ifb_ne (tgt := 10) hC dX8_promise_5 (by decide) (fun c_5 => ?_) (fun c_5 => ?_)
  · refine wp_aload_n hC dX8_promise_10 rfl ?_
    refine wp_geta (k := 1) hC (rfl) (by decide) (rfl) (rfl) (by decide) uX8_promise_X8 fX8_promise_19 (rfl) dX8_promise_11 ?_
    refine wp_getaN (k := 2) hC (rfl) (by decide) (rfl) (rfl) (by decide) uX8_promise_X5 fnX8_124 (rfl) dX8_promise_14 ?_
    refine wp_iload_n hC dX8_promise_17 rfl ?_
    refine wp_iald (n := 24) hC (rfl) (Nat.le_of_ble_eq_true rfl) (rfl) (by decide) (by omega) dX8_promise_18 ?_
    have hk1 := h.2.2 o c_5.1 c_5.2
    refine wp_top (b := σ 111 o) rfl ?_
    refine wp_if_eq (tgt := 25) hC dX8_promise_19 (by decide) (by omega) (fun c_19 => ?_) (fun c_19 => ?_)
    · refine wp_aload_n hC dX8_promise_25 rfl ?_
      refine wp_iconst hC dX8_promise_26 ?_
      refine wp_callVe (As := [_]) hC (c_X8_setOf hG σ (w := 1) (by omega) (fun o a b => (h.2.2 o a b).1) h.1) gX8_promise_X8_setOf rfl ⟨rfl, rfl⟩ ⟨by decide, by decide⟩ hyVX8_setOf (rfl) (by decide) (rfl) rfl (Nat.le_of_ble_eq_true rfl) dX8_promise_27 (fun hx_27 => ?_)
      refine wp_istore_n (lv2 := [(0, _), (1, _), (2, _)]) hC dX8_promise_30 rfl (by decide) ?_
      refine wp_aload_n hC dX8_promise_31 rfl ?_
      refine wp_geta (k := 0) hC (rfl) (by decide) (rfl) (rfl) (by decide) uX8_promise_X8 fX8_promise_12 (rfl) dX8_promise_32 ?_
      refine wp_getaN (k := 0) hC (rfl) (by decide) (rfl) (rfl) (by decide) uX8_promise_X0 fnX8_136 (rfl) dX8_promise_35 ?_
      refine wp_iload_n hC dX8_promise_38 rfl ?_
      refine wp_iald (n := 24) hC (rfl) (Nat.le_of_ble_eq_true rfl) (rfl) (by decide) (by omega) dX8_promise_39 ?_
      refine wp_top (b := σ 84 o) rfl ?_
      have hrm := ROOM_rng h (g := σ 87 o) (by omega) (tb (TX σ 1))
      refine wp_aload_n hC dX8_promise_40 rfl ?_
      refine wp_aload_n hC dX8_promise_41 rfl ?_
      refine wp_geta (k := 0) hC (rfl) (by decide) (rfl) (rfl) (by decide) uX8_promise_X8 fX8_promise_12 (rfl) dX8_promise_42 ?_
      refine wp_getaN (k := 3) hC (rfl) (by decide) (rfl) (rfl) (by decide) uX8_promise_X0 fnX8_142 (rfl) dX8_promise_45 ?_
      refine wp_iload_n hC dX8_promise_48 rfl ?_
      refine wp_iald (n := 24) hC (rfl) (Nat.le_of_ble_eq_true rfl) (rfl) (by decide) (by omega) dX8_promise_49 ?_
      refine wp_iload_n hC dX8_promise_50 rfl ?_
      refine wp_callVe (As := [_, _]) hC (c_X8_roomOf hG σ (g := σ 87 o) (B := TX σ 1) h (by omega) hTr) gX8_promise_X8_roomOf rfl ⟨rfl, rfl⟩ ⟨by decide, by decide⟩ hyVX8_roomOf (rfl) (by decide) (rfl) rfl (Nat.le_of_ble_eq_true rfl) dX8_promise_51 (fun hx_51 => ?_)
      refine wp_top (b := ROOM σ (σ 87 o) (tb (TX σ 1))) rfl ?_
      refine wp_icmp_le (tgt := 60) hC dX8_promise_54 (by decide) (by omega) (by omega) (fun c_54 => ?_) (fun c_54 => ?_)
      · refine wp_aload_n hC dX8_promise_60 rfl ?_
        refine wp_iload_n hC dX8_promise_61 rfl ?_
        refine wp_iload_n hC dX8_promise_62 rfl ?_
        refine wp_callSe (As := [_]) hC (c_X8_bit hG σ (k := o) (by omega)) gX8_promise_X8_bit rfl ⟨rfl, rfl⟩ ⟨by decide, by decide⟩ hySX8_bit rfl (Nat.le_of_ble_eq_true rfl) dX8_promise_63 (fun hx_63 => ?_)
        have hpw := pwI (k := o) (by omega) (by omega)
        have hor := ior_nn hTr hpw
        refine wp_ior hC dX8_promise_66 ?_
        refine wp_callVi (As := [_]) hC (c_X8_areMet hG σ (B := (ior (TX σ 1) (pw o))) h hor) gX8_promise_X8_areMet rfl ⟨rfl, rfl⟩ ⟨by decide, by decide⟩ hyVX8_areMet (rfl) (by decide) (rfl) rfl (Nat.le_of_ble_eq_true rfl) dX8_promise_67 (fun x_67 s_67 hx_67 hp_67 => ?_)
        obtain ⟨hm_67, rfl⟩ := hp_67
        refine wp_if_ne (tgt := 76) hC dX8_promise_70 (by decide) (bP_iR hm_67) (fun c_70 => ?_) (fun c_70 => ?_)
        · refine wp_aload_n hC dX8_promise_76 rfl ?_
          refine wp_iload_n hC dX8_promise_77 rfl ?_
          refine wp_iconst hC dX8_promise_78 ?_
          refine wp_callVe (As := [_, _]) hC (c_X8_become hG (LY σ (ior (TX σ 1) (pw o))) (o := o) (v := 1) h (XL_E hL (EQ_K (EQ_LY EQ_0))) c_5 (by omega)) gX8_promise_X8_become rfl ⟨rfl, rfl⟩ ⟨by decide, by decide⟩ hyVX8_become (rfl) (by decide) (rfl) rfl (Nat.le_of_ble_eq_true rfl) dX8_promise_79 (fun hx_79 => ?_)
          exact hret _ _ _ _ (hx_79) rfl (Or.inr (Or.inr (Or.inr ⟨c_5, by omega, ⟨by omega, bP_1 hm_67 (by omega)⟩, congrArg pc (TX_c rfl (fun _ _ _ => rfl)), NCH_EQ (EQ_put (EQ_LY EQ_0))⟩))) dX8_promise_82
        · refine wp_bipush hC dX8_promise_73 rfl ?_
          exact hret _ _ _ _ (by omega) rfl (Or.inr (Or.inr (Or.inl ⟨c_5, by omega, fun z => bP_0 hm_67 (by omega) z.2, rfl, EQ_LY EQ_0⟩))) dX8_promise_75
      · refine wp_bipush hC dX8_promise_57 rfl ?_
        exact hret _ _ _ _ (by omega) rfl (Or.inr (Or.inr (Or.inl ⟨c_5, by omega, fun z => by have := z.1; omega, rfl, EQ_0⟩))) dX8_promise_59
    · refine wp_bipush hC dX8_promise_22 rfl ?_
      exact hret _ _ _ _ (by omega) rfl (Or.inr (Or.inl ⟨c_5, by omega, rfl, rfl⟩)) dX8_promise_24
  · refine wp_iconst hC dX8_promise_8 ?_
    exact hret _ _ _ _ (by omega) rfl (Or.inl ⟨c_5, rfl, rfl⟩) dX8_promise_9

theorem hyVX8_giveUp : yX8_giveUp.cls = RX8 ∧ yX8_giveUp.cls ≠ "java/lang/invoke/MethodHandle" ∧ yX8_giveUp.cls ≠ "java/lang/invoke/VarHandle" ∧ (parseMethodDescriptor yX8_giveUp.desc).map (fun d => d.parameters.length) = some 1 := by decide +kernel
theorem uX8_giveUp_X8 : ∀ w ∈ u_ws RX8 TX8 13, w ∈ wsX8_giveUp := by decide +kernel
theorem fX8_giveUp_19 : Cond.fieldLink RX8 19 (TX8 1).1 (TX8 1).2.1 (TX8 1).2.2.1 ∈ wsX8_giveUp := by decide +kernel
theorem uX8_giveUp_X5 : ∀ w ∈ u_ws RX5 TX5 5, w ∈ wsX8_giveUp := by decide +kernel
set_option maxHeartbeats 4000000 in
set_option maxRecDepth 100000 in
theorem c_X8_giveUp {l : Launch} {G : Gy} (hG : Inj G) (σ : St) {o : Int} (h : XO σ) (hL : XL σ) (ho : iR o) : MI l yX8_giveUp wsX8_giveUp ({ frames := 5, cells := 0, slots := 0, locals := 104 } : Room) G [.ref (G.2.2 82), .int (zI (o))] σ (fun x σ2 => (¬ (0 ≤ o ∧ o < σ 83 5) ∧ x = -1 ∧ σ2 = σ) ∨ ((0 ≤ o ∧ o < σ 83 5) ∧ σ 111 o ≠ 1 ∧ x = -5 ∧ σ2 = σ) ∨ ((0 ≤ o ∧ o < σ 83 5) ∧ σ 111 o = 1 ∧ (x = pc (TX (put σ 111 o 0) 1) ∧ EQ σ2 (NCH (put σ 111 o 0))))) := by
  refine MI.of hG (by decide +kernel) rfl rfl (Nat.le_of_ble_eq_true rfl) rfl ?_
  intro p e s m args below meth c H0 Q hC hret
  have hn := h.1
  refine wp_aload_n hC dX8_giveUp_0 rfl ?_
  refine wp_iload_n hC dX8_giveUp_1 rfl ?_
  refine wp_callVb (As := [_]) hC (c_X8_isOrder hG _ (by omega) h.1) gX8_giveUp_X8_isOrder rfl ⟨rfl, rfl⟩ ⟨by decide, by decide⟩ hyVX8_isOrder (rfl) (by decide) (rfl) rfl (Nat.le_of_ble_eq_true rfl) dX8_giveUp_2 (fun hx_2 => ?_)
  refine wp_ifb_ne (tgt := 10) hC dX8_giveUp_5 (by decide) (fun c_5 => ?_) (fun c_5 => ?_)
  · refine wp_aload_n hC dX8_giveUp_10 rfl ?_
    refine wp_geta (k := 1) hC (rfl) (by decide) (rfl) (rfl) (by decide) uX8_giveUp_X8 fX8_giveUp_19 (rfl) dX8_giveUp_11 ?_
    refine wp_getaN (k := 2) hC (rfl) (by decide) (rfl) (rfl) (by decide) uX8_giveUp_X5 fnX8_124 (rfl) dX8_giveUp_14 ?_
    refine wp_iload_n hC dX8_giveUp_17 rfl ?_
    refine wp_iald (n := 24) hC (rfl) (Nat.le_of_ble_eq_true rfl) (rfl) (by decide) (by omega) dX8_giveUp_18 ?_
    have hk1 := h.2.2 o c_5.1 c_5.2
    refine wp_top (b := σ 111 o) rfl ?_
    refine wp_iconst hC dX8_giveUp_19 ?_
    refine wp_icmp_eq (tgt := 26) hC dX8_giveUp_20 (by decide) (by omega) (by omega) (fun c_20 => ?_) (fun c_20 => ?_)
    · refine wp_aload_n hC dX8_giveUp_26 rfl ?_
      refine wp_iload_n hC dX8_giveUp_27 rfl ?_
      refine wp_iconst hC dX8_giveUp_28 ?_
      refine wp_callVe (As := [_, _]) hC (c_X8_become hG σ (o := o) (v := 0) h hL c_5 (by omega)) gX8_giveUp_X8_become rfl ⟨rfl, rfl⟩ ⟨by decide, by decide⟩ hyVX8_become (rfl) (by decide) (rfl) rfl (Nat.le_of_ble_eq_true rfl) dX8_giveUp_29 (fun hx_29 => ?_)
      exact hret _ _ _ _ (hx_29) rfl (Or.inr (Or.inr ⟨c_5, by omega, rfl, EQ_0⟩)) dX8_giveUp_32
    · refine wp_bipush hC dX8_giveUp_23 rfl ?_
      exact hret _ _ _ _ (by omega) rfl (Or.inr (Or.inl ⟨c_5, by omega, rfl, rfl⟩)) dX8_giveUp_25
  · refine wp_iconst hC dX8_giveUp_8 ?_
    exact hret _ _ _ _ (by omega) rfl (Or.inl ⟨c_5, rfl, rfl⟩) dX8_giveUp_9

theorem hyVX8_gone : yX8_gone.cls = RX8 ∧ yX8_gone.cls ≠ "java/lang/invoke/MethodHandle" ∧ yX8_gone.cls ≠ "java/lang/invoke/VarHandle" ∧ (parseMethodDescriptor yX8_gone.desc).map (fun d => d.parameters.length) = some 1 := by decide +kernel
theorem uX8_gone_X8 : ∀ w ∈ u_ws RX8 TX8 13, w ∈ wsX8_gone := by decide +kernel
theorem fX8_gone_19 : Cond.fieldLink RX8 19 (TX8 1).1 (TX8 1).2.1 (TX8 1).2.2.1 ∈ wsX8_gone := by decide +kernel
theorem uX8_gone_X5 : ∀ w ∈ u_ws RX5 TX5 5, w ∈ wsX8_gone := by decide +kernel
set_option maxHeartbeats 4000000 in
set_option maxRecDepth 100000 in
theorem c_X8_gone {l : Launch} {G : Gy} (hG : Inj G) (σ : St) {o : Int} (h : XO σ) (hL : XL σ) (ho : iR o) : MI l yX8_gone wsX8_gone ({ frames := 5, cells := 0, slots := 0, locals := 104 } : Room) G [.ref (G.2.2 82), .int (zI (o))] σ (fun x σ2 => (¬ (0 ≤ o ∧ o < σ 83 5) ∧ x = -1 ∧ σ2 = σ) ∨ ((0 ≤ o ∧ o < σ 83 5) ∧ σ 111 o = 2 ∧ x = -5 ∧ σ2 = σ) ∨ ((0 ≤ o ∧ o < σ 83 5) ∧ σ 111 o ≠ 2 ∧ (x = pc (TX (put σ 111 o 2) 1) ∧ EQ σ2 (NCH (put σ 111 o 2))))) := by
  refine MI.of hG (by decide +kernel) rfl rfl (Nat.le_of_ble_eq_true rfl) rfl ?_
  intro p e s m args below meth c H0 Q hC hret
  have hn := h.1
  refine wp_aload_n hC dX8_gone_0 rfl ?_
  refine wp_iload_n hC dX8_gone_1 rfl ?_
  refine wp_callVb (As := [_]) hC (c_X8_isOrder hG _ (by omega) h.1) gX8_gone_X8_isOrder rfl ⟨rfl, rfl⟩ ⟨by decide, by decide⟩ hyVX8_isOrder (rfl) (by decide) (rfl) rfl (Nat.le_of_ble_eq_true rfl) dX8_gone_2 (fun hx_2 => ?_)
  refine wp_ifb_ne (tgt := 10) hC dX8_gone_5 (by decide) (fun c_5 => ?_) (fun c_5 => ?_)
  · refine wp_aload_n hC dX8_gone_10 rfl ?_
    refine wp_geta (k := 1) hC (rfl) (by decide) (rfl) (rfl) (by decide) uX8_gone_X8 fX8_gone_19 (rfl) dX8_gone_11 ?_
    refine wp_getaN (k := 2) hC (rfl) (by decide) (rfl) (rfl) (by decide) uX8_gone_X5 fnX8_124 (rfl) dX8_gone_14 ?_
    refine wp_iload_n hC dX8_gone_17 rfl ?_
    refine wp_iald (n := 24) hC (rfl) (Nat.le_of_ble_eq_true rfl) (rfl) (by decide) (by omega) dX8_gone_18 ?_
    have hk1 := h.2.2 o c_5.1 c_5.2
    refine wp_top (b := σ 111 o) rfl ?_
    refine wp_iconst hC dX8_gone_19 ?_
    refine wp_icmp_ne (tgt := 26) hC dX8_gone_20 (by decide) (by omega) (by omega) (fun c_20 => ?_) (fun c_20 => ?_)
    · refine wp_aload_n hC dX8_gone_26 rfl ?_
      refine wp_iload_n hC dX8_gone_27 rfl ?_
      refine wp_iconst hC dX8_gone_28 ?_
      refine wp_callVe (As := [_, _]) hC (c_X8_become hG σ (o := o) (v := 2) h hL c_5 (by omega)) gX8_gone_X8_become rfl ⟨rfl, rfl⟩ ⟨by decide, by decide⟩ hyVX8_become (rfl) (by decide) (rfl) rfl (Nat.le_of_ble_eq_true rfl) dX8_gone_29 (fun hx_29 => ?_)
      exact hret _ _ _ _ (hx_29) rfl (Or.inr (Or.inr ⟨c_5, by omega, rfl, EQ_0⟩)) dX8_gone_32
    · refine wp_bipush hC dX8_gone_23 rfl ?_
      exact hret _ _ _ _ (by omega) rfl (Or.inr (Or.inl ⟨c_5, by omega, rfl, rfl⟩)) dX8_gone_25
  · refine wp_iconst hC dX8_gone_8 ?_
    exact hret _ _ _ _ (by omega) rfl (Or.inl ⟨c_5, rfl, rfl⟩) dX8_gone_9

theorem hyVX8_move : yX8_move.cls = RX8 ∧ yX8_move.cls ≠ "java/lang/invoke/MethodHandle" ∧ yX8_move.cls ≠ "java/lang/invoke/VarHandle" ∧ (parseMethodDescriptor yX8_move.desc).map (fun d => d.parameters.length) = some 2 := by decide +kernel
theorem uX8_move_X8 : ∀ w ∈ u_ws RX8 TX8 13, w ∈ wsX8_move := by decide +kernel
theorem fX8_move_19 : Cond.fieldLink RX8 19 (TX8 1).1 (TX8 1).2.1 (TX8 1).2.2.1 ∈ wsX8_move := by decide +kernel
theorem uX8_move_X5 : ∀ w ∈ u_ws RX5 TX5 5, w ∈ wsX8_move := by decide +kernel
set_option maxHeartbeats 4000000 in
set_option maxRecDepth 100000 in
theorem c_X8_move {l : Launch} {G : Gy} (hG : Inj G) (σ : St) {o q : Int} (h : XO σ) (hL : XL σ) (ho : iR o) (hq : iR q) : MI l yX8_move wsX8_move ({ frames := 4, cells := 0, slots := 0, locals := 92 } : Room) G [.ref (G.2.2 82), .int (zI (o)), .int (zI (q))] σ (fun x σ2 => (¬ ((0 ≤ o ∧ o < σ 83 5) ∧ (0 ≤ q ∧ q ≤ 11)) ∧ x = -1 ∧ σ2 = σ) ∨ (((0 ≤ o ∧ o < σ 83 5) ∧ (0 ≤ q ∧ q ≤ 11)) ∧ σ 111 o = 2 ∧ x = -5 ∧ σ2 = σ) ∨ (((0 ≤ o ∧ o < σ 83 5) ∧ (0 ≤ q ∧ q ≤ 11)) ∧ (σ 111 o = 1 ∧ ¬ MEX (put σ 112 o q) (tb (TX (put σ 112 o q) 1))) ∧ x = -2 ∧ EQ σ2 σ) ∨ (((0 ≤ o ∧ o < σ 83 5) ∧ (0 ≤ q ∧ q ≤ 11)) ∧ σ 111 o ≠ 2 ∧ ¬ (σ 111 o = 1 ∧ ¬ MEX (put σ 112 o q) (tb (TX (put σ 112 o q) 1))) ∧ x = σ 112 o ∧ EQ σ2 (NCH (put σ 112 o q)))) := by
  refine MI.of hG (by decide +kernel) rfl rfl (Nat.le_of_ble_eq_true rfl) rfl ?_
  intro p e s m args below meth c H0 Q hC hret
  have hn := h.1
  refine wp_aload_n hC dX8_move_0 rfl ?_
  refine wp_iload_n hC dX8_move_1 rfl ?_
  refine wp_callVb (As := [_]) hC (c_X8_isOrder hG _ (by omega) h.1) gX8_move_X8_isOrder rfl ⟨rfl, rfl⟩ ⟨by decide, by decide⟩ hyVX8_isOrder (rfl) (by decide) (rfl) rfl (Nat.le_of_ble_eq_true rfl) dX8_move_2 (fun hx_2 => ?_)
  refine wp_ifb_eq (tgt := 15) hC dX8_move_5 (by decide) (fun c_5 => ?_) (fun c_5 => ?_)
  · refine wp_iconst hC dX8_move_15 ?_
    exact hret _ _ _ _ (by omega) rfl (Or.inl ⟨fun z => c_5 z.1, rfl, rfl⟩) dX8_move_16
  · refine wp_iload_n hC dX8_move_8 rfl ?_
    refine wp_callSb (As := [_]) hC (c_X8_isPeriod hG _ (by omega)) gX8_move_X8_isPeriod rfl ⟨rfl, rfl⟩ ⟨by decide, by decide⟩ hySX8_isPeriod rfl (Nat.le_of_ble_eq_true rfl) dX8_move_9 (fun hx_9 => ?_)
    refine wp_ifb_ne (tgt := 17) hC dX8_move_12 (by decide) (fun c_12 => ?_) (fun c_12 => ?_)
    · refine wp_aload_n hC dX8_move_17 rfl ?_
      refine wp_geta (k := 1) hC (rfl) (by decide) (rfl) (rfl) (by decide) uX8_move_X8 fX8_move_19 (rfl) dX8_move_18 ?_
      refine wp_getaN (k := 2) hC (rfl) (by decide) (rfl) (rfl) (by decide) uX8_move_X5 fnX8_124 (rfl) dX8_move_21 ?_
      refine wp_iload_n hC dX8_move_24 rfl ?_
      refine wp_iald (n := 24) hC (rfl) (Nat.le_of_ble_eq_true rfl) (rfl) (by decide) (by omega) dX8_move_25 ?_
      have hk1 := h.2.2 o c_5.1 c_5.2
      refine wp_top (b := σ 111 o) rfl ?_
      refine wp_iconst hC dX8_move_26 ?_
      refine wp_icmp_ne (tgt := 33) hC dX8_move_27 (by decide) (by omega) (by omega) (fun c_27 => ?_) (fun c_27 => ?_)
      · refine wp_aload_n hC dX8_move_33 rfl ?_
        refine wp_geta (k := 1) hC (rfl) (by decide) (rfl) (rfl) (by decide) uX8_move_X8 fX8_move_19 (rfl) dX8_move_34 ?_
        refine wp_getaN (k := 3) hC (rfl) (by decide) (rfl) (rfl) (by decide) uX8_move_X5 fnX8_127 (rfl) dX8_move_37 ?_
        refine wp_iload_n hC dX8_move_40 rfl ?_
        refine wp_iald (n := 24) hC (rfl) (Nat.le_of_ble_eq_true rfl) (rfl) (by decide) (by omega) dX8_move_41 ?_
        refine wp_top (b := σ 112 o) rfl ?_
        refine wp_istore_n (lv2 := [(0, _), (1, _), (2, _), (3, _)]) hC dX8_move_42 rfl (by decide) ?_
        refine wp_aload_n hC dX8_move_43 rfl ?_
        refine wp_geta (k := 1) hC (rfl) (by decide) (rfl) (rfl) (by decide) uX8_move_X8 fX8_move_19 (rfl) dX8_move_44 ?_
        refine wp_getaN (k := 3) hC (rfl) (by decide) (rfl) (rfl) (by decide) uX8_move_X5 fnX8_127 (rfl) dX8_move_47 ?_
        refine wp_iload_n hC dX8_move_50 rfl ?_
        refine wp_iload_n hC dX8_move_51 rfl ?_
        refine wp_iast (n := 24) hC (rfl) (Nat.le_of_ble_eq_true rfl) (rfl) (by decide) (by omega) dX8_move_52 ?_
        have hX2 := XO_la (o := o) h c_12
        have hTr := bsI (P := fun o1 => decide ((put σ 112 o q) 111 o1 = 1)) hn
        refine wp_aload_n hC dX8_move_53 rfl ?_
        refine wp_geta (k := 1) hC (rfl) (by decide) (rfl) (rfl) (by decide) uX8_move_X8 fX8_move_19 (rfl) dX8_move_54 ?_
        refine wp_getaN (k := 2) hC (rfl) (by decide) (rfl) (rfl) (by decide) uX8_move_X5 fnX8_124 (rfl) dX8_move_57 ?_
        refine wp_iload_n hC dX8_move_60 rfl ?_
        refine wp_iald (n := 24) hC (rfl) (Nat.le_of_ble_eq_true rfl) (rfl) (by decide) (by omega) dX8_move_61 ?_
        refine wp_top (b := σ 111 o) rfl ?_
        refine wp_iconst hC dX8_move_62 ?_
        refine wp_icmp_ne (tgt := 91) hC dX8_move_63 (by decide) (by omega) (by omega) (fun c_63 => ?_) (fun c_63 => ?_)
        · refine wp_aload_n hC dX8_move_91 rfl ?_
          refine wp_callVu (As := []) hC (c_X8_noteChange hG (put σ 112 o q) hn hL.1 hL.2) gX8_move_X8_noteChange rfl ⟨rfl, rfl⟩ ⟨by decide, by decide⟩ hyVX8_noteChange (rfl) (by decide) (rfl) rfl (Nat.le_of_ble_eq_true rfl) dX8_move_92 ?_
          refine wp_iload_n hC dX8_move_95 rfl ?_
          exact hret _ _ _ _ (by omega) rfl (Or.inr (Or.inr (Or.inr ⟨⟨c_5, c_12⟩, by omega, fun z => by have := z.1; omega, rfl, EQ_0⟩))) dX8_move_96
        · refine wp_aload_n hC dX8_move_66 rfl ?_
          refine wp_aload_n hC dX8_move_67 rfl ?_
          refine wp_iconst hC dX8_move_68 ?_
          refine wp_callVe (As := [_]) hC (c_X8_setOf hG (put σ 112 o q) (w := 1) (by omega) (fun o a b => (hX2.2.2 o a b).1) hX2.1) gX8_move_X8_setOf rfl ⟨rfl, rfl⟩ ⟨by decide, by decide⟩ hyVX8_setOf (rfl) (by decide) (rfl) rfl (Nat.le_of_ble_eq_true rfl) dX8_move_69 (fun hx_69 => ?_)
          refine wp_callVi (As := [_]) hC (c_X8_areMet hG (put σ 112 o q) (B := TX (put σ 112 o q) 1) hX2 hTr) gX8_move_X8_areMet rfl ⟨rfl, rfl⟩ ⟨by decide, by decide⟩ hyVX8_areMet (rfl) (by decide) (rfl) rfl (Nat.le_of_ble_eq_true rfl) dX8_move_72 (fun x_72 s_72 hx_72 hp_72 => ?_)
          obtain ⟨hm_72, rfl⟩ := hp_72
          refine wp_if_ne (tgt := 91) hC dX8_move_75 (by decide) (bP_iR hm_72) (fun c_75 => ?_) (fun c_75 => ?_)
          · refine wp_aload_n hC dX8_move_91 rfl ?_
            refine wp_callVu (As := []) hC (c_X8_noteChange hG (LY (put σ 112 o q) (TX (put σ 112 o q) 1)) hn hL.1 hL.2) gX8_move_X8_noteChange rfl ⟨rfl, rfl⟩ ⟨by decide, by decide⟩ hyVX8_noteChange (rfl) (by decide) (rfl) rfl (Nat.le_of_ble_eq_true rfl) dX8_move_92 ?_
            refine wp_iload_n hC dX8_move_95 rfl ?_
            exact hret _ _ _ _ (by omega) rfl (Or.inr (Or.inr (Or.inr ⟨⟨c_5, c_12⟩, by omega, fun z => z.2 (bP_1 hm_72 (by omega)), rfl, NCH_EQ (EQ_LY EQ_0)⟩))) dX8_move_96
          · refine wp_aload_n hC dX8_move_78 rfl ?_
            refine wp_geta (k := 1) hC (rfl) (by decide) (rfl) (rfl) (by decide) uX8_move_X8 fX8_move_19 (rfl) dX8_move_79 ?_
            refine wp_getaN (k := 3) hC (rfl) (by decide) (rfl) (rfl) (by decide) uX8_move_X5 fnX8_127 (rfl) dX8_move_82 ?_
            refine wp_iload_n hC dX8_move_85 rfl ?_
            refine wp_iload_n hC dX8_move_86 rfl ?_
            refine wp_iast (n := 24) hC (rfl) (Nat.le_of_ble_eq_true rfl) (rfl) (by decide) (by omega) dX8_move_87 ?_
            refine wp_bipush hC dX8_move_88 rfl ?_
            exact hret _ _ _ _ (by omega) rfl (Or.inr (Or.inr (Or.inl ⟨⟨c_5, c_12⟩, ⟨by omega, bP_0 hm_72 (by omega)⟩, rfl, fun a b x => by
              by_cases z : a = 112 ∧ b = o
              · rw [z.1, z.2, put_s]
              · rw [put_q z, EQ_LY EQ_0 a b x, put_q z]⟩))) dX8_move_90
      · refine wp_bipush hC dX8_move_30 rfl ?_
        exact hret _ _ _ _ (by omega) rfl (Or.inr (Or.inl ⟨⟨c_5, c_12⟩, by omega, rfl, rfl⟩)) dX8_move_32
    · refine wp_iconst hC dX8_move_15 ?_
      exact hret _ _ _ _ (by omega) rfl (Or.inl ⟨fun z => c_12 z.2, rfl, rfl⟩) dX8_move_16

theorem hyVX8_swap : yX8_swap.cls = RX8 ∧ yX8_swap.cls ≠ "java/lang/invoke/MethodHandle" ∧ yX8_swap.cls ≠ "java/lang/invoke/VarHandle" ∧ (parseMethodDescriptor yX8_swap.desc).map (fun d => d.parameters.length) = some 2 := by decide +kernel
theorem uX8_swap_X8 : ∀ w ∈ u_ws RX8 TX8 13, w ∈ wsX8_swap := by decide +kernel
theorem fX8_swap_19 : Cond.fieldLink RX8 19 (TX8 1).1 (TX8 1).2.1 (TX8 1).2.2.1 ∈ wsX8_swap := by decide +kernel
theorem uX8_swap_X5 : ∀ w ∈ u_ws RX5 TX5 5, w ∈ wsX8_swap := by decide +kernel
set_option maxHeartbeats 4000000 in
set_option maxRecDepth 100000 in
theorem c_X8_swap {l : Launch} {G : Gy} (hG : Inj G) (σ : St) {o q : Int} (h : XO σ) (hL : XL σ) (ho : iR o) (hq : iR q) : MI l yX8_swap wsX8_swap ({ frames := 4, cells := 0, slots := 0, locals := 92 } : Room) G [.ref (G.2.2 82), .int (zI (o)), .int (zI (q))] σ (fun x σ2 => (¬ ((0 ≤ o ∧ o < σ 83 5) ∧ (0 ≤ q ∧ q < σ 83 5) ∧ o ≠ q) ∧ x = -1 ∧ σ2 = σ) ∨ (((0 ≤ o ∧ o < σ 83 5) ∧ (0 ≤ q ∧ q < σ 83 5) ∧ o ≠ q) ∧ ¬ (σ 111 o = 1 ∧ σ 111 q = 1) ∧ x = -5 ∧ σ2 = σ) ∨ (((0 ≤ o ∧ o < σ 83 5) ∧ (0 ≤ q ∧ q < σ 83 5) ∧ o ≠ q) ∧ (σ 111 o = 1 ∧ σ 111 q = 1) ∧ ¬ MEX (put (put σ 112 o (σ 112 q)) 112 q (σ 112 o)) (tb (TX (put (put σ 112 o (σ 112 q)) 112 q (σ 112 o)) 1)) ∧ x = -2 ∧ EQ σ2 σ) ∨ (((0 ≤ o ∧ o < σ 83 5) ∧ (0 ≤ q ∧ q < σ 83 5) ∧ o ≠ q) ∧ (σ 111 o = 1 ∧ σ 111 q = 1) ∧ MEX (put (put σ 112 o (σ 112 q)) 112 q (σ 112 o)) (tb (TX (put (put σ 112 o (σ 112 q)) 112 q (σ 112 o)) 1)) ∧ x = 1 ∧ EQ σ2 (NCH (put (put σ 112 o (σ 112 q)) 112 q (σ 112 o))))) := by
  refine MI.of hG (by decide +kernel) rfl rfl (Nat.le_of_ble_eq_true rfl) rfl ?_
  intro p e s m args below meth c H0 Q hC hret
  have hn := h.1
  refine wp_aload_n hC dX8_swap_0 rfl ?_
  refine wp_iload_n hC dX8_swap_1 rfl ?_
  refine wp_callVb (As := [_]) hC (c_X8_isOrder hG _ (by omega) h.1) gX8_swap_X8_isOrder rfl ⟨rfl, rfl⟩ ⟨by decide, by decide⟩ hyVX8_isOrder (rfl) (by decide) (rfl) rfl (Nat.le_of_ble_eq_true rfl) dX8_swap_2 (fun hx_2 => ?_)
  refine wp_ifb_eq (tgt := 21) hC dX8_swap_5 (by decide) (fun c_5 => ?_) (fun c_5 => ?_)
  · refine wp_iconst hC dX8_swap_21 ?_
    exact hret _ _ _ _ (by omega) rfl (Or.inl ⟨fun z => c_5 z.1, rfl, rfl⟩) dX8_swap_22
  · refine wp_aload_n hC dX8_swap_8 rfl ?_
    refine wp_iload_n hC dX8_swap_9 rfl ?_
    refine wp_callVb (As := [_]) hC (c_X8_isOrder hG σ (by omega) h.1) gX8_swap_X8_isOrder rfl ⟨rfl, rfl⟩ ⟨by decide, by decide⟩ hyVX8_isOrder (rfl) (by decide) (rfl) rfl (Nat.le_of_ble_eq_true rfl) dX8_swap_10 (fun hx_10 => ?_)
    refine wp_ifb_eq (tgt := 21) hC dX8_swap_13 (by decide) (fun c_13 => ?_) (fun c_13 => ?_)
    · refine wp_iconst hC dX8_swap_21 ?_
      exact hret _ _ _ _ (by omega) rfl (Or.inl ⟨fun z => c_13 z.2.1, rfl, rfl⟩) dX8_swap_22
    · refine wp_iload_n hC dX8_swap_16 rfl ?_
      refine wp_iload_n hC dX8_swap_17 rfl ?_
      refine wp_icmp_ne (tgt := 23) hC dX8_swap_18 (by decide) (by omega) (by omega) (fun c_18 => ?_) (fun c_18 => ?_)
      · refine wp_aload_n hC dX8_swap_23 rfl ?_
        refine wp_geta (k := 1) hC (rfl) (by decide) (rfl) (rfl) (by decide) uX8_swap_X8 fX8_swap_19 (rfl) dX8_swap_24 ?_
        refine wp_getaN (k := 2) hC (rfl) (by decide) (rfl) (rfl) (by decide) uX8_swap_X5 fnX8_124 (rfl) dX8_swap_27 ?_
        refine wp_iload_n hC dX8_swap_30 rfl ?_
        refine wp_iald (n := 24) hC (rfl) (Nat.le_of_ble_eq_true rfl) (rfl) (by decide) (by omega) dX8_swap_31 ?_
        have hk1 := h.2.2 o c_5.1 c_5.2
        have hk2 := h.2.2 q c_13.1 c_13.2
        have hoq : o ≠ q := by omega
        refine wp_top (b := σ 111 o) rfl ?_
        refine wp_iconst hC dX8_swap_32 ?_
        refine wp_icmp_ne (tgt := 49) hC dX8_swap_33 (by decide) (by omega) (by omega) (fun c_33 => ?_) (fun c_33 => ?_)
        · refine wp_bipush hC dX8_swap_49 rfl ?_
          exact hret _ _ _ _ (by omega) rfl (Or.inr (Or.inl ⟨⟨c_5, c_13, hoq⟩, by omega, rfl, rfl⟩)) dX8_swap_51
        · refine wp_aload_n hC dX8_swap_36 rfl ?_
          refine wp_geta (k := 1) hC (rfl) (by decide) (rfl) (rfl) (by decide) uX8_swap_X8 fX8_swap_19 (rfl) dX8_swap_37 ?_
          refine wp_getaN (k := 2) hC (rfl) (by decide) (rfl) (rfl) (by decide) uX8_swap_X5 fnX8_124 (rfl) dX8_swap_40 ?_
          refine wp_iload_n hC dX8_swap_43 rfl ?_
          refine wp_iald (n := 24) hC (rfl) (Nat.le_of_ble_eq_true rfl) (rfl) (by decide) (by omega) dX8_swap_44 ?_
          refine wp_top (b := σ 111 q) rfl ?_
          refine wp_iconst hC dX8_swap_45 ?_
          refine wp_icmp_eq (tgt := 52) hC dX8_swap_46 (by decide) (by omega) (by omega) (fun c_46 => ?_) (fun c_46 => ?_)
          · refine wp_aload_n hC dX8_swap_52 rfl ?_
            refine wp_iload_n hC dX8_swap_53 rfl ?_
            refine wp_iload_n hC dX8_swap_54 rfl ?_
            refine wp_callVu (As := [_, _]) hC (c_X8_exchangeLatest hG σ (a := o) (b := q) (by omega) (by omega)) gX8_swap_X8_exchangeLatest rfl ⟨rfl, rfl⟩ ⟨by decide, by decide⟩ hyVX8_exchangeLatest (rfl) (by decide) (rfl) rfl (Nat.le_of_ble_eq_true rfl) dX8_swap_55 ?_
            have hX2 : XO (put (put σ 112 o (σ 112 q)) 112 q (σ 112 o)) := XO_la (XO_la h hk2.2.1) hk1.2.1
            have hTr := bsI (P := fun o1 => decide ((put (put σ 112 o (σ 112 q)) 112 q (σ 112 o)) 111 o1 = 1)) hn
            refine wp_aload_n hC dX8_swap_58 rfl ?_
            refine wp_aload_n hC dX8_swap_59 rfl ?_
            refine wp_iconst hC dX8_swap_60 ?_
            refine wp_callVe (As := [_]) hC (c_X8_setOf hG (put (put σ 112 o (σ 112 q)) 112 q (σ 112 o)) (w := 1) (by omega) (fun o a b => (hX2.2.2 o a b).1) hX2.1) gX8_swap_X8_setOf rfl ⟨rfl, rfl⟩ ⟨by decide, by decide⟩ hyVX8_setOf (rfl) (by decide) (rfl) rfl (Nat.le_of_ble_eq_true rfl) dX8_swap_61 (fun hx_61 => ?_)
            refine wp_callVi (As := [_]) hC (c_X8_areMet hG (put (put σ 112 o (σ 112 q)) 112 q (σ 112 o)) (B := TX (put (put σ 112 o (σ 112 q)) 112 q (σ 112 o)) 1) hX2 hTr) gX8_swap_X8_areMet rfl ⟨rfl, rfl⟩ ⟨by decide, by decide⟩ hyVX8_areMet (rfl) (by decide) (rfl) rfl (Nat.le_of_ble_eq_true rfl) dX8_swap_64 (fun x_64 s_64 hx_64 hp_64 => ?_)
            obtain ⟨hm_64, rfl⟩ := hp_64
            refine wp_if_ne (tgt := 79) hC dX8_swap_67 (by decide) (bP_iR hm_64) (fun c_67 => ?_) (fun c_67 => ?_)
            · refine wp_aload_n hC dX8_swap_79 rfl ?_
              refine wp_callVu (As := []) hC (c_X8_noteChange hG (LY (put (put σ 112 o (σ 112 q)) 112 q (σ 112 o)) (TX (put (put σ 112 o (σ 112 q)) 112 q (σ 112 o)) 1)) hn hL.1 hL.2) gX8_swap_X8_noteChange rfl ⟨rfl, rfl⟩ ⟨by decide, by decide⟩ hyVX8_noteChange (rfl) (by decide) (rfl) rfl (Nat.le_of_ble_eq_true rfl) dX8_swap_80 ?_
              refine wp_iconst hC dX8_swap_83 ?_
              exact hret _ _ _ _ (by omega) rfl (Or.inr (Or.inr (Or.inr ⟨⟨c_5, c_13, hoq⟩, by omega, bP_1 hm_64 (by omega), rfl, NCH_EQ (EQ_LY EQ_0)⟩))) dX8_swap_84
            · refine wp_aload_n hC dX8_swap_70 rfl ?_
              refine wp_iload_n hC dX8_swap_71 rfl ?_
              refine wp_iload_n hC dX8_swap_72 rfl ?_
              refine wp_callVu (As := [_, _]) hC (c_X8_exchangeLatest hG (LY (put (put σ 112 o (σ 112 q)) 112 q (σ 112 o)) (TX (put (put σ 112 o (σ 112 q)) 112 q (σ 112 o)) 1)) (a := o) (b := q) (by omega) (by omega)) gX8_swap_X8_exchangeLatest rfl ⟨rfl, rfl⟩ ⟨by decide, by decide⟩ hyVX8_exchangeLatest (rfl) (by decide) (rfl) rfl (Nat.le_of_ble_eq_true rfl) dX8_swap_73 ?_
              refine wp_bipush hC dX8_swap_76 rfl ?_
              exact hret _ _ _ _ (by omega) rfl (Or.inr (Or.inr (Or.inl ⟨⟨c_5, c_13, hoq⟩, by omega, bP_0 hm_64 (by omega), rfl, fun a b x => by
                have e1 : LY (put (put σ 112 o (σ 112 q)) 112 q (σ 112 o)) (TX (put (put σ 112 o (σ 112 q)) 112 q (σ 112 o)) 1) 112 q = σ 112 o := by
                  rw [show LY (put (put σ 112 o (σ 112 q)) 112 q (σ 112 o)) (TX (put (put σ 112 o (σ 112 q)) 112 q (σ 112 o)) 1) 112 q = (put (put σ 112 o (σ 112 q)) 112 q (σ 112 o)) 112 q from rfl, put_s]
                have e2 : LY (put (put σ 112 o (σ 112 q)) 112 q (σ 112 o)) (TX (put (put σ 112 o (σ 112 q)) 112 q (σ 112 o)) 1) 112 o = σ 112 q := by
                  rw [show LY (put (put σ 112 o (σ 112 q)) 112 q (σ 112 o)) (TX (put (put σ 112 o (σ 112 q)) 112 q (σ 112 o)) 1) 112 o = (put (put σ 112 o (σ 112 q)) 112 q (σ 112 o)) 112 o from rfl, put_q (by omega), put_s]
                rw [e1, e2]
                by_cases z : a = 112 ∧ b = q
                · rw [z.1, z.2, put_s]
                · rw [put_q z]
                  by_cases y : a = 112 ∧ b = o
                  · rw [y.1, y.2, put_s]
                  · rw [put_q y, EQ_LY EQ_0 a b x, put_q z, put_q y]⟩))) dX8_swap_78
          · refine wp_bipush hC dX8_swap_49 rfl ?_
            exact hret _ _ _ _ (by omega) rfl (Or.inr (Or.inl ⟨⟨c_5, c_13, hoq⟩, by omega, rfl, rfl⟩)) dX8_swap_51
      · refine wp_iconst hC dX8_swap_21 ?_
        exact hret _ _ _ _ (by omega) rfl (Or.inl ⟨fun z => by have := z.2.2; omega, rfl, rfl⟩) dX8_swap_22

theorem hyVX8_supply : yX8_supply.cls = RX8 ∧ yX8_supply.cls ≠ "java/lang/invoke/MethodHandle" ∧ yX8_supply.cls ≠ "java/lang/invoke/VarHandle" ∧ (parseMethodDescriptor yX8_supply.desc).map (fun d => d.parameters.length) = some 3 := by decide +kernel
theorem uX8_supply_X8 : ∀ w ∈ u_ws RX8 TX8 13, w ∈ wsX8_supply := by decide +kernel
theorem fX8_supply_19 : Cond.fieldLink RX8 19 (TX8 1).1 (TX8 1).2.1 (TX8 1).2.2.1 ∈ wsX8_supply := by decide +kernel
theorem uX8_supply_X5 : ∀ w ∈ u_ws RX5 TX5 5, w ∈ wsX8_supply := by decide +kernel
set_option maxHeartbeats 4000000 in
set_option maxRecDepth 100000 in
theorem c_X8_supply {l : Launch} {G : Gy} (hG : Inj G) (σ : St) {i q n1 : Int} (h : XO σ) (hL : XL σ) (hi : iR i) (hq : iR q) (hn1 : iR n1) : MI l yX8_supply wsX8_supply ({ frames := 4, cells := 0, slots := 0, locals := 82 } : Room) G [.ref (G.2.2 82), .int (zI (i)), .int (zI (q)), .int (zI (n1))] σ (fun x σ2 => (¬ (((0 ≤ i ∧ i ≤ 2) ∧ (0 ≤ q ∧ q ≤ 11)) ∧ (0 ≤ n1 ∧ n1 ≤ 99)) ∧ x = -1 ∧ σ2 = σ) ∨ ((((0 ≤ i ∧ i ≤ 2) ∧ (0 ≤ q ∧ q ≤ 11)) ∧ (0 ≤ n1 ∧ n1 ≤ 99)) ∧ x = σ 109 (12 * i + q) ∧ σ2 = NCH (put σ 109 (12 * i + q) n1))) := by
  refine MI.of hG (by decide +kernel) rfl rfl (Nat.le_of_ble_eq_true rfl) rfl ?_
  intro p e s m args below meth c H0 Q hC hret
  have hn := h.1
  refine wp_iload_n hC dX8_supply_0 rfl ?_
  refine wp_iload_n hC dX8_supply_1 rfl ?_
  refine wp_callSb (As := [_, _]) hC (c_X8_isSupply hG _ (by omega) (by omega)) gX8_supply_X8_isSupply rfl ⟨rfl, rfl⟩ ⟨by decide, by decide⟩ hySX8_isSupply rfl (Nat.le_of_ble_eq_true rfl) dX8_supply_2 (fun hx_2 => ?_)
  refine wp_ifb_eq (tgt := 18) hC dX8_supply_5 (by decide) (fun c_5 => ?_) (fun c_5 => ?_)
  · refine wp_iconst hC dX8_supply_18 ?_
    exact hret _ _ _ _ (by omega) rfl (Or.inl ⟨fun z => c_5 z.1, rfl, rfl⟩) dX8_supply_19
  · refine wp_iload_n hC dX8_supply_8 rfl ?_
    refine wp_iconst hC dX8_supply_9 ?_
    refine wp_bipush hC dX8_supply_10 rfl ?_
    refine wp_callSb (As := [_, _, _]) hC (c_X8_within hG σ hn1 (by omega) (by omega)) gX8_supply_X8_within rfl ⟨rfl, rfl⟩ ⟨by decide, by decide⟩ hySX8_within rfl (Nat.le_of_ble_eq_true rfl) dX8_supply_12 (fun hx_12 => ?_)
    refine wp_ifb_ne (tgt := 20) hC dX8_supply_15 (by decide) (fun c_15 => ?_) (fun c_15 => ?_)
    · refine wp_iload_n hC dX8_supply_20 rfl ?_
      refine wp_bipush hC dX8_supply_21 rfl ?_
      refine wp_imul hC dX8_supply_23 ?_
      refine wp_iload_n hC dX8_supply_24 rfl ?_
      refine wp_iadd hC dX8_supply_25 ?_
      refine wp_top (b := 12 * i + q) (by omega) ?_
      have hs1 := h.2.1.1 (12 * i + q) (by omega) (by omega)
      refine wp_istore (lv2 := [(0, _), (1, _), (2, _), (3, _), (4, _)]) hC dX8_supply_26 rfl (by decide) ?_
      refine wp_aload_n hC dX8_supply_28 rfl ?_
      refine wp_geta (k := 1) hC (rfl) (by decide) (rfl) (rfl) (by decide) uX8_supply_X8 fX8_supply_19 (rfl) dX8_supply_29 ?_
      refine wp_getaN (k := 0) hC (rfl) (by decide) (rfl) (rfl) (by decide) uX8_supply_X5 fnX8_80 (rfl) dX8_supply_32 ?_
      refine wp_iload hC dX8_supply_35 rfl ?_
      refine wp_iald (n := 36) hC (rfl) (Nat.le_of_ble_eq_true rfl) (rfl) (by decide) (by omega) dX8_supply_37 ?_
      refine wp_top (b := σ 109 (12 * i + q)) rfl ?_
      refine wp_istore (lv2 := [(0, _), (1, _), (2, _), (3, _), (4, _), (5, _)]) hC dX8_supply_38 rfl (by decide) ?_
      refine wp_aload_n hC dX8_supply_40 rfl ?_
      refine wp_geta (k := 1) hC (rfl) (by decide) (rfl) (rfl) (by decide) uX8_supply_X8 fX8_supply_19 (rfl) dX8_supply_41 ?_
      refine wp_getaN (k := 0) hC (rfl) (by decide) (rfl) (rfl) (by decide) uX8_supply_X5 fnX8_80 (rfl) dX8_supply_44 ?_
      refine wp_iload hC dX8_supply_47 rfl ?_
      refine wp_iload_n hC dX8_supply_49 rfl ?_
      refine wp_iast (n := 36) hC (rfl) (Nat.le_of_ble_eq_true rfl) (rfl) (by decide) (by omega) dX8_supply_50 ?_
      refine wp_aload_n hC dX8_supply_51 rfl ?_
      refine wp_callVu (As := []) hC (c_X8_noteChange hG (put σ 109 (12 * i + q) n1) hn hL.1 hL.2) gX8_supply_X8_noteChange rfl ⟨rfl, rfl⟩ ⟨by decide, by decide⟩ hyVX8_noteChange (rfl) (by decide) (rfl) rfl (Nat.le_of_ble_eq_true rfl) dX8_supply_52 ?_
      refine wp_iload hC dX8_supply_55 rfl ?_
      exact hret _ _ _ _ (by omega) rfl (Or.inr ⟨⟨c_5, c_15⟩, rfl, rfl⟩) dX8_supply_57
    · refine wp_iconst hC dX8_supply_18 ?_
      exact hret _ _ _ _ (by omega) rfl (Or.inl ⟨fun z => c_15 z.2, rfl, rfl⟩) dX8_supply_19

theorem hyVX8_share : yX8_share.cls = RX8 ∧ yX8_share.cls ≠ "java/lang/invoke/MethodHandle" ∧ yX8_share.cls ≠ "java/lang/invoke/VarHandle" ∧ (parseMethodDescriptor yX8_share.desc).map (fun d => d.parameters.length) = some 2 := by decide +kernel
theorem uX8_share_X8 : ∀ w ∈ u_ws RX8 TX8 13, w ∈ wsX8_share := by decide +kernel
theorem fX8_share_19 : Cond.fieldLink RX8 19 (TX8 1).1 (TX8 1).2.1 (TX8 1).2.2.1 ∈ wsX8_share := by decide +kernel
theorem uX8_share_X5 : ∀ w ∈ u_ws RX5 TX5 5, w ∈ wsX8_share := by decide +kernel
set_option maxHeartbeats 4000000 in
set_option maxRecDepth 100000 in
theorem c_X8_share {l : Launch} {G : Gy} (hG : Inj G) (σ : St) {g n1 : Int} (h : XO σ) (hL : XL σ) (hg : iR g) (hn1 : iR n1) : MI l yX8_share wsX8_share ({ frames := 4, cells := 0, slots := 0, locals := 82 } : Room) G [.ref (G.2.2 82), .int (zI (g)), .int (zI (n1))] σ (fun x σ2 => (¬ ((0 ≤ g ∧ g ≤ 3) ∧ (0 ≤ n1 ∧ n1 ≤ 100)) ∧ x = -1 ∧ σ2 = σ) ∨ (((0 ≤ g ∧ g ≤ 3) ∧ (0 ≤ n1 ∧ n1 ≤ 100)) ∧ x = σ 110 g ∧ σ2 = NCH (put σ 110 g n1))) := by
  refine MI.of hG (by decide +kernel) rfl rfl (Nat.le_of_ble_eq_true rfl) rfl ?_
  intro p e s m args below meth c H0 Q hC hret
  have hn := h.1
  refine wp_iload_n hC dX8_share_0 rfl ?_
  refine wp_callSb (As := [_]) hC (c_X8_isGroup hG _ (by omega)) gX8_share_X8_isGroup rfl ⟨rfl, rfl⟩ ⟨by decide, by decide⟩ hySX8_isGroup rfl (Nat.le_of_ble_eq_true rfl) dX8_share_1 (fun hx_1 => ?_)
  refine wp_ifb_eq (tgt := 17) hC dX8_share_4 (by decide) (fun c_4 => ?_) (fun c_4 => ?_)
  · refine wp_iconst hC dX8_share_17 ?_
    exact hret _ _ _ _ (by omega) rfl (Or.inl ⟨fun z => c_4 z.1, rfl, rfl⟩) dX8_share_18
  · refine wp_iload_n hC dX8_share_7 rfl ?_
    refine wp_iconst hC dX8_share_8 ?_
    refine wp_bipush hC dX8_share_9 rfl ?_
    refine wp_callSb (As := [_, _, _]) hC (c_X8_within hG σ hn1 (by omega) (by omega)) gX8_share_X8_within rfl ⟨rfl, rfl⟩ ⟨by decide, by decide⟩ hySX8_within rfl (Nat.le_of_ble_eq_true rfl) dX8_share_11 (fun hx_11 => ?_)
    refine wp_ifb_ne (tgt := 19) hC dX8_share_14 (by decide) (fun c_14 => ?_) (fun c_14 => ?_)
    · refine wp_aload_n hC dX8_share_19 rfl ?_
      refine wp_geta (k := 1) hC (rfl) (by decide) (rfl) (rfl) (by decide) uX8_share_X8 fX8_share_19 (rfl) dX8_share_20 ?_
      refine wp_getaN (k := 1) hC (rfl) (by decide) (rfl) (rfl) (by decide) uX8_share_X5 fnX8_90 (rfl) dX8_share_23 ?_
      refine wp_iload_n hC dX8_share_26 rfl ?_
      refine wp_iald (n := 4) hC (rfl) (Nat.le_of_ble_eq_true rfl) (rfl) (by decide) (by omega) dX8_share_27 ?_
      refine wp_top (b := σ 110 g) rfl ?_
      have hs1 := h.2.1.2 g (by omega) (by omega)
      refine wp_istore_n (lv2 := [(0, _), (1, _), (2, _), (3, _)]) hC dX8_share_28 rfl (by decide) ?_
      refine wp_aload_n hC dX8_share_29 rfl ?_
      refine wp_geta (k := 1) hC (rfl) (by decide) (rfl) (rfl) (by decide) uX8_share_X8 fX8_share_19 (rfl) dX8_share_30 ?_
      refine wp_getaN (k := 1) hC (rfl) (by decide) (rfl) (rfl) (by decide) uX8_share_X5 fnX8_90 (rfl) dX8_share_33 ?_
      refine wp_iload_n hC dX8_share_36 rfl ?_
      refine wp_iload_n hC dX8_share_37 rfl ?_
      refine wp_iast (n := 4) hC (rfl) (Nat.le_of_ble_eq_true rfl) (rfl) (by decide) (by omega) dX8_share_38 ?_
      refine wp_aload_n hC dX8_share_39 rfl ?_
      refine wp_callVu (As := []) hC (c_X8_noteChange hG (put σ 110 g n1) hn hL.1 hL.2) gX8_share_X8_noteChange rfl ⟨rfl, rfl⟩ ⟨by decide, by decide⟩ hyVX8_noteChange (rfl) (by decide) (rfl) rfl (Nat.le_of_ble_eq_true rfl) dX8_share_40 ?_
      refine wp_iload_n hC dX8_share_43 rfl ?_
      exact hret _ _ _ _ (by omega) rfl (Or.inr ⟨⟨c_4, c_14⟩, rfl, rfl⟩) dX8_share_44
    · refine wp_iconst hC dX8_share_17 ?_
      exact hret _ _ _ _ (by omega) rfl (Or.inl ⟨fun z => c_14 z.2, rfl, rfl⟩) dX8_share_18
