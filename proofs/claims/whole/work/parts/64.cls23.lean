theorem hyVX8_feed : yX8_feed.cls = RX8 ∧ yX8_feed.cls ≠ "java/lang/invoke/MethodHandle" ∧ yX8_feed.cls ≠ "java/lang/invoke/VarHandle" ∧ (parseMethodDescriptor yX8_feed.desc).map (fun d => d.parameters.length) = some 1 := by decide +kernel
theorem uX8_feed_X8 : ∀ w ∈ u_ws RX8 TX8 13, w ∈ wsX8_feed := by decide +kernel
theorem fX8_feed_36 : Cond.fieldLink RX8 36 (TX8 4).1 (TX8 4).2.1 (TX8 4).2.2.1 ∈ wsX8_feed := by decide +kernel
theorem uX8_feed_X7 : ∀ w ∈ u_ws RX7 TX7 4, w ∈ wsX8_feed := by decide +kernel
theorem fnX8_112 : Cond.fieldLinkNest RX8 112 (TX7 1).1 (TX7 1).2.1 (TX7 1).2.2.1 "PromiseMind" ∈ tables_1 := List.mem_of_getElem? (i := 137) (by decide +kernel)
set_option maxHeartbeats 4000000 in
set_option maxRecDepth 100000 in
theorem c_X8_feed {l : Launch} {G : Gy} (hG : Inj G) (σ : St) {v : Int} (hv : iR v) (hz : 0 ≤ σ 89 1 ∧ σ 89 1 ≤ 100) : MI l yX8_feed wsX8_feed ({ frames := 2, cells := 0, slots := 0, locals := 41 } : Room) G [.ref (G.2.2 82), .int (zI (v))] σ (fun x σ2 => (¬ (32 ≤ v ∧ v ≤ 126) ∧ x = -1 ∧ σ2 = σ) ∨ ((32 ≤ v ∧ v ≤ 126) ∧ σ 89 1 = 100 ∧ x = -3 ∧ σ2 = σ) ∨ ((32 ≤ v ∧ v ≤ 126) ∧ σ 89 1 ≠ 100 ∧ x = σ 89 1 + 1 ∧ σ2 = put (put σ 90 (σ 89 1) v) 89 1 (σ 89 1 + 1))) := by
  refine MI.of hG (by decide +kernel) rfl rfl (Nat.le_of_ble_eq_true rfl) rfl ?_
  intro p e s m args below meth c H0 Q hC hret
  refine wp_iload_n hC dX8_feed_0 rfl ?_
  refine wp_bipush hC dX8_feed_1 rfl ?_
  refine wp_bipush hC dX8_feed_3 rfl ?_
  refine wp_callSb (As := [_, _, _]) hC (c_X8_within hG σ hv (by omega) (by omega)) gX8_feed_X8_within rfl ⟨rfl, rfl⟩ ⟨by decide, by decide⟩ hySX8_within rfl (Nat.le_of_ble_eq_true rfl) dX8_feed_5 (fun hx_5 => ?_)
  refine wp_ifb_ne (tgt := 13) hC dX8_feed_8 (by decide) (fun c_8 => ?_) (fun c_8 => ?_)
  · refine wp_aload_n hC dX8_feed_13 rfl ?_
    refine wp_geta (k := 4) hC (rfl) (by decide) (rfl) (rfl) (by decide) uX8_feed_X8 fX8_feed_36 (rfl) dX8_feed_14 ?_
    refine wp_callVb (As := []) hC (c_X7_isFull hG _ (by omega)) gX8_feed_X7_isFull rfl ⟨rfl, rfl⟩ ⟨by decide, by decide⟩ hyVX7_isFull (rfl) (by decide) (rfl) rfl (Nat.le_of_ble_eq_true rfl) dX8_feed_17 (fun hx_17 => ?_)
    refine wp_ifb_eq (tgt := 26) hC dX8_feed_20 (by decide) (fun c_20 => ?_) (fun c_20 => ?_)
    · refine wp_aload_n hC dX8_feed_26 rfl ?_
      refine wp_geta (k := 4) hC (rfl) (by decide) (rfl) (rfl) (by decide) uX8_feed_X8 fX8_feed_36 (rfl) dX8_feed_27 ?_
      refine wp_iload_n hC dX8_feed_30 rfl ?_
      refine wp_i2c hC dX8_feed_31 (by omega) ?_
      refine wp_callVu (As := [_]) hC (c_X7_append hG _ (by omega) (by omega)) gX8_feed_X7_append rfl ⟨rfl, rfl⟩ ⟨by decide, by decide⟩ hyVX7_append (rfl) (by decide) (rfl) rfl (Nat.le_of_ble_eq_true rfl) dX8_feed_32 ?_
      refine wp_aload_n hC dX8_feed_35 rfl ?_
      refine wp_geta (k := 4) hC (rfl) (by decide) (rfl) (rfl) (by decide) uX8_feed_X8 fX8_feed_36 (rfl) dX8_feed_36 ?_
      refine wp_getiN (k := 1) (z := 1) hC rfl (rfl) (by decide) (rfl) (rfl) (by decide) uX8_feed_X7 fnX8_112 (rfl) dX8_feed_39 ?_
      refine wp_top (b := σ 89 1 + 1) put_s ?_
      exact hret _ _ _ _ (by omega) rfl (Or.inr (Or.inr ⟨c_8, by omega, rfl, rfl⟩)) dX8_feed_42
    · refine wp_bipush hC dX8_feed_23 rfl ?_
      exact hret _ _ _ _ (by omega) rfl (Or.inr (Or.inl ⟨c_8, by omega, rfl, rfl⟩)) dX8_feed_25
  · refine wp_iconst hC dX8_feed_11 ?_
    exact hret _ _ _ _ (by omega) rfl (Or.inl ⟨c_8, rfl, rfl⟩) dX8_feed_12

/-- orders come: asked, their latest as told -/
def ASK (σ : St) (lo hi : Int) : St := fun a b => if a = 111 ∧ lo ≤ b ∧ b < hi then 0 else if a = 112 ∧ lo ≤ b ∧ b < hi then σ 86 b else σ a b
theorem ASK_0 {σ : St} {lo : Int} : σ = ASK σ lo lo := by
  funext a b
  unfold ASK
  rw [if_neg (by omega), if_neg (by omega)]
theorem ASK_s {σ : St} {lo k : Int} (h : lo ≤ k) : put (put (ASK σ lo k) 111 k 0) 112 k (σ 86 k) = ASK σ lo (k + 1) := by
  funext a b
  by_cases q : a = 112 ∧ b = k
  · rw [q.1, q.2, put_s]
    unfold ASK
    rw [if_neg (by omega), if_pos (by omega)]
  · rw [put_q q]
    by_cases r : a = 111 ∧ b = k
    · rw [r.1, r.2, put_s]
      unfold ASK
      rw [if_pos (by omega)]
    · rw [put_q r]
      unfold ASK
      by_cases w : a = 111 ∧ lo ≤ b ∧ b < k
      · rw [if_pos w, if_pos (by omega)]
      · rw [if_neg w, if_neg (show ¬ (a = 111 ∧ lo ≤ b ∧ b < k + 1) by omega)]
        by_cases w2 : a = 112 ∧ lo ≤ b ∧ b < k
        · rw [if_pos w2, if_pos (by omega)]
        · rw [if_neg w2, if_neg (by omega)]
theorem ASK_o {σ : St} {lo hi : Int} {a : Nat} {b : Int} (h : ¬ (a = 111 ∨ a = 112)) : ASK σ lo hi a b = σ a b := by
  unfold ASK
  rw [if_neg (by omega), if_neg (by omega)]

theorem hyVX8_orders : yX8_orders.cls = RX8 ∧ yX8_orders.cls ≠ "java/lang/invoke/MethodHandle" ∧ yX8_orders.cls ≠ "java/lang/invoke/VarHandle" ∧ (parseMethodDescriptor yX8_orders.desc).map (fun d => d.parameters.length) = some 0 := by decide +kernel
theorem uX8_orders_X8 : ∀ w ∈ u_ws RX8 TX8 13, w ∈ wsX8_orders := by decide +kernel
theorem fX8_orders_12 : Cond.fieldLink RX8 12 (TX8 0).1 (TX8 0).2.1 (TX8 0).2.2.1 ∈ wsX8_orders := by decide +kernel
theorem uX8_orders_X0 : ∀ w ∈ u_ws RX0 TX0 6, w ∈ wsX8_orders := by decide +kernel
theorem fX8_orders_19 : Cond.fieldLink RX8 19 (TX8 1).1 (TX8 1).2.1 (TX8 1).2.2.1 ∈ wsX8_orders := by decide +kernel
theorem uX8_orders_X5 : ∀ w ∈ u_ws RX5 TX5 5, w ∈ wsX8_orders := by decide +kernel
theorem fX8_orders_36 : Cond.fieldLink RX8 36 (TX8 4).1 (TX8 4).2.1 (TX8 4).2.2.1 ∈ wsX8_orders := by decide +kernel
set_option maxHeartbeats 8000000 in
set_option maxRecDepth 100000 in
theorem c_X8_orders {l : Launch} {G : Gy} (hG : Inj G) (σ : St) (hn : 0 ≤ σ 83 5 ∧ σ 83 5 ≤ 24) (hz : 0 ≤ σ 89 1 ∧ σ 89 1 ≤ 100) (hs : ∀ k, 0 ≤ k → k < 100 → 0 ≤ σ 90 k ∧ σ 90 k ≤ 126) : MI l yX8_orders wsX8_orders ({ frames := 5, cells := 0, slots := 0, locals := 108 } : Room) G [.ref (G.2.2 82)] σ (fun x σ2 => ∃ (J : Nat) (ρ1 : St), (∀ i, i < J → conN (σ 90) (σ 89 1) (σ 83 5) i) ∧ BF σ ρ1 (σ 83 5) ∧ ((OKN (σ 90) (σ 89 1) (σ 83 5) J ∧ x = σ 83 5 + J + 1 ∧ STO σ ρ1 (σ 83 5) (J + 1) ∧ σ2 = ASK (put (put ρ1 83 5 (σ 83 5 + J + 1)) 89 1 0) (σ 83 5) (σ 83 5 + J + 1)) ∨ (∃ F, FLN (σ 90) (σ 89 1) (σ 83 5) J F ∧ x = -100 - F ∧ σ2 = put ρ1 89 1 0))) := by
  refine MI.of hG (by decide +kernel) rfl rfl (Nat.le_of_ble_eq_true rfl) rfl ?_
  intro p e s m args below meth c H0 Q hC hret
  have L38 : ∀ (n : Nat) (k : Int) (ρ ρ1 : St) (J : Nat), ((ρ 83 5 - k).toNat) = n → (σ 83 5 ≤ k ∧ k ≤ ρ 83 5) → (∀ i, i < J → conN (σ 90) (σ 89 1) (σ 83 5) i) → (BF σ ρ1 (σ 83 5)) → (OKN (σ 90) (σ 89 1) (σ 83 5) J) → (STO σ ρ1 (σ 83 5) (J + 1)) → (ρ = put ρ1 83 5 (σ 83 5 + J + 1)) → (ρ 83 5 = σ 83 5 + J + 1) → (σ 83 5 + (J : Int) < 24) → wp p l e ({ frames := 5, cells := 0, slots := 0, locals := 108 } : Room) s m args below meth c (aA G (Array.size H0)) H0 4 Q G (ASK (put ρ 89 1 0) (σ 83 5) k) 38 [(0, .ref (G.2.2 82)), (1, .int (zI (σ 83 5))), (2, .int (zI (-1))), (3, .int (zI (k)))] [] := by
    intro n38
    induction n38 using Nat.strongRecOn with
    | ind n38 ih =>
      intro k ρ ρ1 J hm38 h1 hc hb k1 k3 k4 k5 k1a
      refine wp_iload_n hC dX8_orders_38 rfl ?_
      refine wp_aload_n hC dX8_orders_39 rfl ?_
      refine wp_geta (k := 0) hC (rfl) (by decide) (rfl) (rfl) (by decide) uX8_orders_X8 fX8_orders_12 (rfl) dX8_orders_40 ?_
      refine wp_getiN (k := 5) (z := 5) hC rfl (rfl) (by decide) (rfl) (rfl) (by decide) uX8_orders_X0 fnX8_116 (rfl) dX8_orders_43 ?_
      refine wp_top (b := ρ 83 5) rfl ?_
      refine wp_icmp_ge (tgt := 83) hC dX8_orders_46 (by decide) (by omega) (by omega) (fun c_46 => ?_) (fun c_46 => ?_)
      · refine wp_aload_n hC dX8_orders_83 rfl ?_
        refine wp_geta (k := 0) hC (rfl) (by decide) (rfl) (rfl) (by decide) uX8_orders_X8 fX8_orders_12 (rfl) dX8_orders_84 ?_
        refine wp_getiN (k := 5) (z := 5) hC rfl (rfl) (by decide) (rfl) (rfl) (by decide) uX8_orders_X0 fnX8_116 (rfl) dX8_orders_87 ?_
        refine wp_top (b := σ 83 5 + J + 1) k5 ?_
        exact hret _ _ _ _ (by omega) rfl (⟨J, ρ1, hc, hb, Or.inl ⟨k1, rfl, k3, by rw [show k = σ 83 5 + J + 1 by omega, k4]⟩⟩) dX8_orders_90
      · refine wp_aload_n hC dX8_orders_49 rfl ?_
        refine wp_geta (k := 1) hC (rfl) (by decide) (rfl) (rfl) (by decide) uX8_orders_X8 fX8_orders_19 (rfl) dX8_orders_50 ?_
        refine wp_getaN (k := 2) hC (rfl) (by decide) (rfl) (rfl) (by decide) uX8_orders_X5 fnX8_124 (rfl) dX8_orders_53 ?_
        refine wp_iload_n hC dX8_orders_56 rfl ?_
        refine wp_iconst hC dX8_orders_57 ?_
        refine wp_iast (n := 24) hC (rfl) (Nat.le_of_ble_eq_true rfl) (rfl) (by decide) (by omega) dX8_orders_58 ?_
        refine wp_aload_n hC dX8_orders_59 rfl ?_
        refine wp_geta (k := 1) hC (rfl) (by decide) (rfl) (rfl) (by decide) uX8_orders_X8 fX8_orders_19 (rfl) dX8_orders_60 ?_
        refine wp_getaN (k := 3) hC (rfl) (by decide) (rfl) (rfl) (by decide) uX8_orders_X5 fnX8_127 (rfl) dX8_orders_63 ?_
        refine wp_iload_n hC dX8_orders_66 rfl ?_
        refine wp_aload_n hC dX8_orders_67 rfl ?_
        refine wp_geta (k := 0) hC (rfl) (by decide) (rfl) (rfl) (by decide) uX8_orders_X8 fX8_orders_12 (rfl) dX8_orders_68 ?_
        refine wp_getaN (k := 2) hC (rfl) (by decide) (rfl) (rfl) (by decide) uX8_orders_X0 fnX8_130 (rfl) dX8_orders_71 ?_
        refine wp_iload_n hC dX8_orders_74 rfl ?_
        refine wp_iald (n := 24) hC (rfl) (Nat.le_of_ble_eq_true rfl) (rfl) (by decide) (by omega) dX8_orders_75 ?_
        refine wp_top (b := put ρ 89 1 0 86 k) ((put_i (by decide)).trans (ASK_o (by decide))) ?_
        refine wp_iast (n := 24) hC (rfl) (Nat.le_of_ble_eq_true rfl) (rfl) (by decide) (by omega) dX8_orders_76 ?_
        refine wp_iinc (lv2 := [(0, _), (1, _), (2, _), (3, _)]) hC dX8_orders_77 rfl rfl (by decide) ?_
        refine wp_goto (tgt := 38) hC dX8_orders_80 (by decide) ?_
        refine wp_st (ASK_s h1.1) ?_
        exact ih _ (by omega) _ _ _ _ rfl (by omega) hc hb k1 k3 k4 k5 k1a
  refine wp_aload_n hC dX8_orders_0 rfl ?_
  refine wp_geta (k := 0) hC (rfl) (by decide) (rfl) (rfl) (by decide) uX8_orders_X8 fX8_orders_12 (rfl) dX8_orders_1 ?_
  refine wp_getiN (k := 5) (z := 5) hC rfl (rfl) (by decide) (rfl) (rfl) (by decide) uX8_orders_X0 fnX8_116 (rfl) dX8_orders_4 ?_
  refine wp_top (b := σ 83 5) rfl ?_
  refine wp_istore_n (lv2 := [(0, _), (1, _)]) hC dX8_orders_7 rfl (by decide) ?_
  refine wp_aload_n hC dX8_orders_8 rfl ?_
  refine wp_geta (k := 4) hC (rfl) (by decide) (rfl) (rfl) (by decide) uX8_orders_X8 fX8_orders_36 (rfl) dX8_orders_9 ?_
  refine wp_aload_n hC dX8_orders_12 rfl ?_
  refine wp_geta (k := 0) hC (rfl) (by decide) (rfl) (rfl) (by decide) uX8_orders_X8 fX8_orders_12 (rfl) dX8_orders_13 ?_
  refine wp_callVi (As := [_]) hC (c_X7_readInto hG σ hn hz hs) gX8_orders_X7_readInto rfl ⟨rfl, rfl⟩ ⟨by decide, by decide⟩ hyVX7_readInto (rfl) (by decide) (rfl) rfl (Nat.le_of_ble_eq_true rfl) dX8_orders_16 (fun x_16 s_16 hx_16 hp_16 => ?_)
  obtain ⟨J, ρ1, hc, hb, hres⟩ := hp_16
  have hx : -1 ≤ x_16 ∧ x_16 ≤ 100 := by clear hc hb; rcases hres with q | q <;> omega
  refine wp_istore_n (lv2 := [(0, _), (1, _), (2, _)]) hC dX8_orders_19 rfl (by decide) ?_
  refine wp_aload_n hC dX8_orders_20 rfl ?_
  refine wp_geta (k := 4) hC (rfl) (by decide) (rfl) (rfl) (by decide) uX8_orders_X8 fX8_orders_36 (rfl) dX8_orders_21 ?_
  refine wp_callVu (As := []) hC (c_X7_clear hG _) gX8_orders_X7_clear rfl ⟨rfl, rfl⟩ ⟨by decide, by decide⟩ hyVX7_clear (rfl) (by decide) (rfl) rfl (Nat.le_of_ble_eq_true rfl) dX8_orders_24 ?_
  refine wp_iload_n hC dX8_orders_27 rfl ?_
  refine wp_if_lt (tgt := 36) hC dX8_orders_28 (by decide) (by omega) (fun c_28 => ?_) (fun c_28 => ?_)
  · have kk : OKN (σ 90) (σ 89 1) (σ 83 5) J ∧ x_16 = -1 ∧ STO σ ρ1 (σ 83 5) (J + 1) ∧ s_16 = (put ρ1 83 5 (σ 83 5 + J + 1)) := by
      rcases hres with q | q
      · exact q
      · have := q.2.1; omega
    obtain ⟨k1, k2, k3, k4⟩ := kk
    subst k2
    clear hres
    have k1a := k1.1
    have k5 : s_16 83 5 = σ 83 5 + J + 1 := by rw [k4]; exact put_s
    refine wp_iload_n hC dX8_orders_36 rfl ?_
    refine wp_istore_n (lv2 := [(0, _), (1, _), (2, _), (3, _)]) hC dX8_orders_37 rfl (by decide) ?_
    refine wp_st (ASK_0 (lo := σ 83 5)) ?_
    exact L38 _ _ _ _ _ rfl (by omega) hc hb k1 k3 k4 k5 k1a
  · have kk : FLN (σ 90) (σ 89 1) (σ 83 5) J x_16 ∧ s_16 = ρ1 := by
      rcases hres with q | q
      · exact absurd q.2.1 (by omega)
      · exact ⟨q.1, q.2.2.2⟩
    obtain ⟨k1, rfl⟩ := kk
    refine wp_bipush hC dX8_orders_31 rfl ?_
    refine wp_iload_n hC dX8_orders_33 rfl ?_
    refine wp_isub hC dX8_orders_34 ?_
    exact hret _ _ _ _ (by omega) rfl (⟨J, s_16, hc, hb, Or.inr ⟨x_16, k1, rfl, rfl⟩⟩) dX8_orders_35

theorem hyVX8_of : yX8_of.cls = RX8 ∧ yX8_of.cls ≠ "java/lang/invoke/MethodHandle" ∧ yX8_of.cls ≠ "java/lang/invoke/VarHandle" ∧ (parseMethodDescriptor yX8_of.desc).map (fun d => d.parameters.length) = some 2 := by decide +kernel
theorem uX8_of_X8 : ∀ w ∈ u_ws RX8 TX8 13, w ∈ wsX8_of := by decide +kernel
theorem fX8_of_12 : Cond.fieldLink RX8 12 (TX8 0).1 (TX8 0).2.1 (TX8 0).2.2.1 ∈ wsX8_of := by decide +kernel
theorem uX8_of_X0 : ∀ w ∈ u_ws RX0 TX0 6, w ∈ wsX8_of := by decide +kernel
theorem fX8_of_19 : Cond.fieldLink RX8 19 (TX8 1).1 (TX8 1).2.1 (TX8 1).2.2.1 ∈ wsX8_of := by decide +kernel
theorem uX8_of_X5 : ∀ w ∈ u_ws RX5 TX5 5, w ∈ wsX8_of := by decide +kernel
set_option maxHeartbeats 8000000 in
set_option maxRecDepth 100000 in
theorem c_X8_of {l : Launch} {G : Gy} (hG : Inj G) (σ : St) {o wh : Int} (h : XO σ) (hk : KOK σ) (ho : iR o) (hwh : iR wh) : MI l yX8_of wsX8_of ({ frames := 5, cells := 0, slots := 0, locals := 115 } : Room) G [.ref (G.2.2 82), .int (zI (o)), .int (zI (wh))] σ (fun x σ2 => ((¬ (0 ≤ o ∧ o < σ 83 5) ∧ x = -1) ∨ ((0 ≤ o ∧ o < σ 83 5) ∧ ((wh = 0 ∧ x = σ 84 o) ∨ (wh = 1 ∧ x = σ 85 o) ∨ (wh = 2 ∧ x = σ 112 o) ∨ (wh = 3 ∧ x = σ 87 o) ∨ (wh = 4 ∧ x = σ 88 o) ∨ (wh = 5 ∧ x = σ 111 o) ∨ (wh = 6 ∧ bP x (LATX σ o)) ∨ ((wh < 0 ∨ 6 < wh) ∧ x = -1)))) ∧ EQK σ2 σ ∧ KOK σ2) := by
  refine MI.of hG (by decide +kernel) rfl rfl (Nat.le_of_ble_eq_true rfl) rfl ?_
  intro p e s m args below meth c H0 Q hC hret
  have hn := h.1
  refine wp_aload_n hC dX8_of_0 rfl ?_
  refine wp_iload_n hC dX8_of_1 rfl ?_
  refine wp_callVb (As := [_]) hC (c_X8_isOrder hG _ (by omega) h.1) gX8_of_X8_isOrder rfl ⟨rfl, rfl⟩ ⟨by decide, by decide⟩ hyVX8_isOrder (rfl) (by decide) (rfl) rfl (Nat.le_of_ble_eq_true rfl) dX8_of_2 (fun hx_2 => ?_)
  refine wp_ifb_ne (tgt := 10) hC dX8_of_5 (by decide) (fun c_5 => ?_) (fun c_5 => ?_)
  · have hok := h.2.2 o c_5.1 c_5.2
    refine wp_iload_n hC dX8_of_10 rfl ?_
    rcases (show (wh < 0 ∨ 6 < wh) ∨ wh = 0 ∨ wh = 1 ∨ wh = 2 ∨ wh = 3 ∨ wh = 4 ∨ wh = 5 ∨ wh = 6 from by omega) with c_11 | c_11 | c_11 | c_11 | c_11 | c_11 | c_11 | c_11
    · refine wp_tabOut (tgt := 126) hC dX8_of_11 (by omega) c_11 (by decide) ?_
      refine wp_iconst hC dX8_of_126 ?_
      exact hret _ _ _ _ (by omega) rfl (⟨Or.inr ⟨c_5, Or.inr (Or.inr (Or.inr (Or.inr (Or.inr (Or.inr (Or.inr (⟨c_11, rfl⟩)))))))⟩, EQK_0, hk⟩) dX8_of_127
    · refine wp_tabIn (tgt := 52) (v := 0) hC dX8_of_11 c_11 (by decide) (by decide) (by decide) rfl (by decide) ?_
      refine wp_aload_n hC dX8_of_52 rfl ?_
      refine wp_geta (k := 0) hC (rfl) (by decide) (rfl) (rfl) (by decide) uX8_of_X8 fX8_of_12 (rfl) dX8_of_53 ?_
      refine wp_getaN (k := 0) hC (rfl) (by decide) (rfl) (rfl) (by decide) uX8_of_X0 fnX8_136 (rfl) dX8_of_56 ?_
      refine wp_iload_n hC dX8_of_59 rfl ?_
      refine wp_iald (n := 24) hC (rfl) (Nat.le_of_ble_eq_true rfl) (rfl) (by decide) (by omega) dX8_of_60 ?_
      refine wp_top (b := σ 84 o) rfl ?_
      exact hret _ _ _ _ (by omega) rfl (⟨Or.inr ⟨c_5, Or.inl (⟨by omega, rfl⟩)⟩, EQK_0, hk⟩) dX8_of_61
    · refine wp_tabIn (tgt := 62) (v := 1) hC dX8_of_11 c_11 (by decide) (by decide) (by decide) rfl (by decide) ?_
      refine wp_aload_n hC dX8_of_62 rfl ?_
      refine wp_geta (k := 0) hC (rfl) (by decide) (rfl) (rfl) (by decide) uX8_of_X8 fX8_of_12 (rfl) dX8_of_63 ?_
      refine wp_getaN (k := 1) hC (rfl) (by decide) (rfl) (rfl) (by decide) uX8_of_X0 fnX8_139 (rfl) dX8_of_66 ?_
      refine wp_iload_n hC dX8_of_69 rfl ?_
      refine wp_iald (n := 24) hC (rfl) (Nat.le_of_ble_eq_true rfl) (rfl) (by decide) (by omega) dX8_of_70 ?_
      refine wp_top (b := σ 85 o) rfl ?_
      exact hret _ _ _ _ (by omega) rfl (⟨Or.inr ⟨c_5, Or.inr (Or.inl (⟨by omega, rfl⟩))⟩, EQK_0, hk⟩) dX8_of_71
    · refine wp_tabIn (tgt := 72) (v := 2) hC dX8_of_11 c_11 (by decide) (by decide) (by decide) rfl (by decide) ?_
      refine wp_aload_n hC dX8_of_72 rfl ?_
      refine wp_geta (k := 1) hC (rfl) (by decide) (rfl) (rfl) (by decide) uX8_of_X8 fX8_of_19 (rfl) dX8_of_73 ?_
      refine wp_getaN (k := 3) hC (rfl) (by decide) (rfl) (rfl) (by decide) uX8_of_X5 fnX8_127 (rfl) dX8_of_76 ?_
      refine wp_iload_n hC dX8_of_79 rfl ?_
      refine wp_iald (n := 24) hC (rfl) (Nat.le_of_ble_eq_true rfl) (rfl) (by decide) (by omega) dX8_of_80 ?_
      refine wp_top (b := σ 112 o) rfl ?_
      exact hret _ _ _ _ (by omega) rfl (⟨Or.inr ⟨c_5, Or.inr (Or.inr (Or.inl (⟨by omega, rfl⟩)))⟩, EQK_0, hk⟩) dX8_of_81
    · refine wp_tabIn (tgt := 82) (v := 3) hC dX8_of_11 c_11 (by decide) (by decide) (by decide) rfl (by decide) ?_
      refine wp_aload_n hC dX8_of_82 rfl ?_
      refine wp_geta (k := 0) hC (rfl) (by decide) (rfl) (rfl) (by decide) uX8_of_X8 fX8_of_12 (rfl) dX8_of_83 ?_
      refine wp_getaN (k := 3) hC (rfl) (by decide) (rfl) (rfl) (by decide) uX8_of_X0 fnX8_142 (rfl) dX8_of_86 ?_
      refine wp_iload_n hC dX8_of_89 rfl ?_
      refine wp_iald (n := 24) hC (rfl) (Nat.le_of_ble_eq_true rfl) (rfl) (by decide) (by omega) dX8_of_90 ?_
      refine wp_top (b := σ 87 o) rfl ?_
      exact hret _ _ _ _ (by omega) rfl (⟨Or.inr ⟨c_5, Or.inr (Or.inr (Or.inr (Or.inl (⟨by omega, rfl⟩))))⟩, EQK_0, hk⟩) dX8_of_91
    · refine wp_tabIn (tgt := 92) (v := 4) hC dX8_of_11 c_11 (by decide) (by decide) (by decide) rfl (by decide) ?_
      refine wp_aload_n hC dX8_of_92 rfl ?_
      refine wp_geta (k := 0) hC (rfl) (by decide) (rfl) (rfl) (by decide) uX8_of_X8 fX8_of_12 (rfl) dX8_of_93 ?_
      refine wp_getaN (k := 4) hC (rfl) (by decide) (rfl) (rfl) (by decide) uX8_of_X0 fnX8_145 (rfl) dX8_of_96 ?_
      refine wp_iload_n hC dX8_of_99 rfl ?_
      refine wp_iald (n := 24) hC (rfl) (Nat.le_of_ble_eq_true rfl) (rfl) (by decide) (by omega) dX8_of_100 ?_
      refine wp_top (b := σ 88 o) rfl ?_
      exact hret _ _ _ _ (by omega) rfl (⟨Or.inr ⟨c_5, Or.inr (Or.inr (Or.inr (Or.inr (Or.inl (⟨by omega, rfl⟩)))))⟩, EQK_0, hk⟩) dX8_of_101
    · refine wp_tabIn (tgt := 102) (v := 5) hC dX8_of_11 c_11 (by decide) (by decide) (by decide) rfl (by decide) ?_
      refine wp_aload_n hC dX8_of_102 rfl ?_
      refine wp_geta (k := 1) hC (rfl) (by decide) (rfl) (rfl) (by decide) uX8_of_X8 fX8_of_19 (rfl) dX8_of_103 ?_
      refine wp_getaN (k := 2) hC (rfl) (by decide) (rfl) (rfl) (by decide) uX8_of_X5 fnX8_124 (rfl) dX8_of_106 ?_
      refine wp_iload_n hC dX8_of_109 rfl ?_
      refine wp_iald (n := 24) hC (rfl) (Nat.le_of_ble_eq_true rfl) (rfl) (by decide) (by omega) dX8_of_110 ?_
      refine wp_top (b := σ 111 o) rfl ?_
      exact hret _ _ _ _ (by omega) rfl (⟨Or.inr ⟨c_5, Or.inr (Or.inr (Or.inr (Or.inr (Or.inr (Or.inl (⟨by omega, rfl⟩))))))⟩, EQK_0, hk⟩) dX8_of_111
    · refine wp_tabIn (tgt := 112) (v := 6) hC dX8_of_11 c_11 (by decide) (by decide) (by decide) rfl (by decide) ?_
      refine wp_aload_n hC dX8_of_112 rfl ?_
      refine wp_iload_n hC dX8_of_113 rfl ?_
      refine wp_callVi (As := [_]) hC (c_X8_isLate hG σ h hk c_5) gX8_of_X8_isLate rfl ⟨rfl, rfl⟩ ⟨by decide, by decide⟩ hyVX8_isLate (rfl) (by decide) (rfl) rfl (Nat.le_of_ble_eq_true rfl) dX8_of_114 (fun x_114 s_114 hx_114 hp_114 => ?_)
      obtain ⟨hb, hE, hK⟩ := hp_114
      refine wp_if_eq (tgt := 124) hC dX8_of_117 (by decide) (bP_iR hb) (fun c_117 => ?_) (fun c_117 => ?_)
      · refine wp_iconst hC dX8_of_124 ?_
        exact hret _ _ _ _ (by omega) rfl (⟨Or.inr ⟨c_5, Or.inr (Or.inr (Or.inr (Or.inr (Or.inr (Or.inr (Or.inl (⟨by omega, Or.inr ⟨rfl, bP_0 hb (by omega)⟩⟩)))))))⟩, hE, hK⟩) dX8_of_125
      · refine wp_iconst hC dX8_of_120 ?_
        refine wp_goto (tgt := 125) hC dX8_of_121 (by decide) ?_
        exact hret _ _ _ _ (by omega) rfl (⟨Or.inr ⟨c_5, Or.inr (Or.inr (Or.inr (Or.inr (Or.inr (Or.inr (Or.inl (⟨by omega, Or.inl ⟨rfl, bP_1 hb (by omega)⟩⟩)))))))⟩, hE, hK⟩) dX8_of_125
  · refine wp_iconst hC dX8_of_8 ?_
    exact hret _ _ _ _ (by omega) rfl (⟨Or.inl ⟨c_5, rfl⟩, EQK_0, hk⟩) dX8_of_9

theorem hyVX8_row : yX8_row.cls = RX8 ∧ yX8_row.cls ≠ "java/lang/invoke/MethodHandle" ∧ yX8_row.cls ≠ "java/lang/invoke/VarHandle" ∧ (parseMethodDescriptor yX8_row.desc).map (fun d => d.parameters.length) = some 2 := by decide +kernel
theorem uX8_row_X8 : ∀ w ∈ u_ws RX8 TX8 13, w ∈ wsX8_row := by decide +kernel
theorem fX8_row_57 : Cond.fieldLink RX8 57 (TX8 7).1 (TX8 7).2.1 (TX8 7).2.2.1 ∈ wsX8_row := by decide +kernel
set_option maxHeartbeats 4000000 in
set_option maxRecDepth 100000 in
theorem c_X8_row {l : Launch} {G : Gy} (hG : Inj G) (σ : St) {w n1 : Int} (hw : iR w) (hn1 : iR n1) : MI l yX8_row wsX8_row ({ frames := 2, cells := 0, slots := 0, locals := 44 } : Room) G [.ref (G.2.2 82), .int (zI (w)), .int (zI (n1))] σ (fun x σ2 => (¬ ((0 ≤ w ∧ w < 4) ∧ n1 ≤ 24) ∧ x = -1 ∧ σ2 = σ) ∨ (((0 ≤ w ∧ w < 4) ∧ n1 ≤ 24) ∧ n1 < 0 ∧ x = -14 ∧ σ2 = σ) ∨ (((0 ≤ w ∧ w < 4) ∧ n1 ≤ 24) ∧ 0 ≤ n1 ∧ x = 1 ∧ σ2 = SLk σ w n1 24)) := by
  refine MI.of hG (by decide +kernel) rfl rfl (Nat.le_of_ble_eq_true rfl) rfl ?_
  intro p e s m args below meth c H0 Q hC hret
  refine wp_aload_n hC dX8_row_0 rfl ?_
  refine wp_geta (k := 7) hC (rfl) (by decide) (rfl) (rfl) (by decide) uX8_row_X8 fX8_row_57 (rfl) dX8_row_1 ?_
  refine wp_iload_n hC dX8_row_4 rfl ?_
  refine wp_callVb (As := [_]) hC (c_X4_has hG _ (by omega)) gX8_row_X4_has rfl ⟨rfl, rfl⟩ ⟨by decide, by decide⟩ hyVX4_has (rfl) (by decide) (rfl) rfl (Nat.le_of_ble_eq_true rfl) dX8_row_5 (fun hx_5 => ?_)
  refine wp_ifb_eq (tgt := 17) hC dX8_row_8 (by decide) (fun c_8 => ?_) (fun c_8 => ?_)
  · refine wp_iconst hC dX8_row_17 ?_
    exact hret _ _ _ _ (by omega) rfl (Or.inl ⟨fun z => c_8 z.1, rfl, rfl⟩) dX8_row_18
  · refine wp_iload_n hC dX8_row_11 rfl ?_
    refine wp_bipush hC dX8_row_12 rfl ?_
    refine wp_icmp_le (tgt := 19) hC dX8_row_14 (by decide) (by omega) (by omega) (fun c_14 => ?_) (fun c_14 => ?_)
    · refine wp_iload_n hC dX8_row_19 rfl ?_
      refine wp_if_ge (tgt := 26) hC dX8_row_20 (by decide) (by omega) (fun c_20 => ?_) (fun c_20 => ?_)
      · refine wp_aload_n hC dX8_row_26 rfl ?_
        refine wp_geta (k := 7) hC (rfl) (by decide) (rfl) (rfl) (by decide) uX8_row_X8 fX8_row_57 (rfl) dX8_row_27 ?_
        refine wp_iload_n hC dX8_row_30 rfl ?_
        refine wp_iload_n hC dX8_row_31 rfl ?_
        refine wp_callVu (As := [_, _]) hC (c_X4_lay hG σ (w := w) (n1 := n1) c_8 (by omega)) gX8_row_X4_lay rfl ⟨rfl, rfl⟩ ⟨by decide, by decide⟩ hyVX4_lay (rfl) (by decide) (rfl) rfl (Nat.le_of_ble_eq_true rfl) dX8_row_32 ?_
        refine wp_iconst hC dX8_row_35 ?_
        exact hret _ _ _ _ (by omega) rfl (Or.inr (Or.inr ⟨⟨c_8, by omega⟩, by omega, rfl, rfl⟩)) dX8_row_36
      · refine wp_bipush hC dX8_row_23 rfl ?_
        exact hret _ _ _ _ (by omega) rfl (Or.inr (Or.inl ⟨⟨c_8, by omega⟩, by omega, rfl, rfl⟩)) dX8_row_25
    · refine wp_iconst hC dX8_row_17 ?_
      exact hret _ _ _ _ (by omega) rfl (Or.inl ⟨fun z => by have := z.2; omega, rfl, rfl⟩) dX8_row_18

theorem hyVX8_put : yX8_put.cls = RX8 ∧ yX8_put.cls ≠ "java/lang/invoke/MethodHandle" ∧ yX8_put.cls ≠ "java/lang/invoke/VarHandle" ∧ (parseMethodDescriptor yX8_put.desc).map (fun d => d.parameters.length) = some 3 := by decide +kernel
theorem uX8_put_X8 : ∀ w ∈ u_ws RX8 TX8 13, w ∈ wsX8_put := by decide +kernel
theorem fX8_put_57 : Cond.fieldLink RX8 57 (TX8 7).1 (TX8 7).2.1 (TX8 7).2.2.1 ∈ wsX8_put := by decide +kernel
set_option maxHeartbeats 4000000 in
set_option maxRecDepth 100000 in
theorem c_X8_put {l : Launch} {G : Gy} (hG : Inj G) (σ : St) {w i v : Int} (hz : ∀ k, 0 ≤ k → k < 4 → -1 ≤ σ 102 k ∧ σ 102 k ≤ 24) (hw : iR w) (hi : iR i) : MI l yX8_put wsX8_put ({ frames := 3, cells := 0, slots := 0, locals := 67 } : Room) G [.ref (G.2.2 82), .int (zI (w)), .int (zI (i)), .long (zL v)] σ (fun x σ2 => (¬ (0 ≤ w ∧ w < 4) ∧ x = -1 ∧ σ2 = σ) ∨ ((0 ≤ w ∧ w < 4) ∧ σ 102 w < 0 ∧ x = -11 ∧ σ2 = σ) ∨ ((0 ≤ w ∧ w < 4) ∧ 0 ≤ σ 102 w ∧ ¬ (0 ≤ i ∧ i < σ 102 w) ∧ x = -13 ∧ σ2 = σ) ∨ ((0 ≤ w ∧ w < 4) ∧ 0 ≤ σ 102 w ∧ (0 ≤ i ∧ i < σ 102 w) ∧ x = 1 ∧ σ2 = put σ 101 (24 * w + i) v)) := by
  refine MI.of hG (by decide +kernel) rfl rfl (Nat.le_of_ble_eq_true rfl) rfl ?_
  intro p e s m args below meth c H0 Q hC hret
  refine wp_aload_n hC dX8_put_0 rfl ?_
  refine wp_geta (k := 7) hC (rfl) (by decide) (rfl) (rfl) (by decide) uX8_put_X8 fX8_put_57 (rfl) dX8_put_1 ?_
  refine wp_iload_n hC dX8_put_4 rfl ?_
  refine wp_callVb (As := [_]) hC (c_X4_has hG _ (by omega)) gX8_put_X4_has rfl ⟨rfl, rfl⟩ ⟨by decide, by decide⟩ hyVX4_has (rfl) (by decide) (rfl) rfl (Nat.le_of_ble_eq_true rfl) dX8_put_5 (fun hx_5 => ?_)
  refine wp_ifb_ne (tgt := 13) hC dX8_put_8 (by decide) (fun c_8 => ?_) (fun c_8 => ?_)
  · refine wp_aload_n hC dX8_put_13 rfl ?_
    refine wp_geta (k := 7) hC (rfl) (by decide) (rfl) (rfl) (by decide) uX8_put_X8 fX8_put_57 (rfl) dX8_put_14 ?_
    refine wp_iload_n hC dX8_put_17 rfl ?_
    refine wp_callVb (As := [_]) hC (c_X4_isEmpty hG _ (by omega) hz) gX8_put_X4_isEmpty rfl ⟨rfl, rfl⟩ ⟨by decide, by decide⟩ hyVX4_isEmpty (rfl) (by decide) (rfl) rfl (Nat.le_of_ble_eq_true rfl) dX8_put_18 (fun hx_18 => ?_)
    refine wp_ifb_eq (tgt := 27) hC dX8_put_21 (by decide) (fun c_21 => ?_) (fun c_21 => ?_)
    · have hsw : 0 ≤ σ 102 w := by
        rcases Int.lt_or_le (σ 102 w) 0 with z | z
        · exact absurd ⟨c_8, z⟩ c_21
        · exact z
      refine wp_aload_n hC dX8_put_27 rfl ?_
      refine wp_geta (k := 7) hC (rfl) (by decide) (rfl) (rfl) (by decide) uX8_put_X8 fX8_put_57 (rfl) dX8_put_28 ?_
      refine wp_iload_n hC dX8_put_31 rfl ?_
      refine wp_iload_n hC dX8_put_32 rfl ?_
      refine wp_callVb (As := [_, _]) hC (c_X4_hasPlace hG _ (by omega) (by omega) hz) gX8_put_X4_hasPlace rfl ⟨rfl, rfl⟩ ⟨by decide, by decide⟩ hyVX4_hasPlace (rfl) (by decide) (rfl) rfl (Nat.le_of_ble_eq_true rfl) dX8_put_33 (fun hx_33 => ?_)
      refine wp_ifb_ne (tgt := 42) hC dX8_put_36 (by decide) (fun c_36 => ?_) (fun c_36 => ?_)
      · refine wp_aload_n hC dX8_put_42 rfl ?_
        refine wp_geta (k := 7) hC (rfl) (by decide) (rfl) (rfl) (by decide) uX8_put_X8 fX8_put_57 (rfl) dX8_put_43 ?_
        refine wp_iload_n hC dX8_put_46 rfl ?_
        refine wp_iload_n hC dX8_put_47 rfl ?_
        refine wp_lload_n hC dX8_put_48 rfl ?_
        refine wp_callVu (As := [_, _, _]) hC (c_X4_write hG σ (w := w) (i := i) (v := v) c_8 c_36.2 hz) gX8_put_X4_write rfl ⟨rfl, rfl⟩ ⟨by decide, by decide⟩ hyVX4_write (rfl) (by decide) (rfl) rfl (Nat.le_of_ble_eq_true rfl) dX8_put_49 ?_
        refine wp_iconst hC dX8_put_52 ?_
        exact hret _ _ _ _ (by omega) rfl (Or.inr (Or.inr (Or.inr ⟨c_8, hsw, c_36.2, rfl, rfl⟩))) dX8_put_53
      · refine wp_bipush hC dX8_put_39 rfl ?_
        exact hret _ _ _ _ (by omega) rfl (Or.inr (Or.inr (Or.inl ⟨c_8, hsw, fun z => c_36 ⟨c_8, z⟩, rfl, rfl⟩))) dX8_put_41
    · refine wp_bipush hC dX8_put_24 rfl ?_
      exact hret _ _ _ _ (by omega) rfl (Or.inr (Or.inl ⟨c_8, c_21.2, rfl, rfl⟩)) dX8_put_26
  · refine wp_iconst hC dX8_put_11 ?_
    exact hret _ _ _ _ (by omega) rfl (Or.inl ⟨c_8, rfl, rfl⟩) dX8_put_12

theorem hyVX8_get : yX8_get.cls = RX8 ∧ yX8_get.cls ≠ "java/lang/invoke/MethodHandle" ∧ yX8_get.cls ≠ "java/lang/invoke/VarHandle" ∧ (parseMethodDescriptor yX8_get.desc).map (fun d => d.parameters.length) = some 2 := by decide +kernel
theorem uX8_get_X8 : ∀ w ∈ u_ws RX8 TX8 13, w ∈ wsX8_get := by decide +kernel
theorem fX8_get_57 : Cond.fieldLink RX8 57 (TX8 7).1 (TX8 7).2.1 (TX8 7).2.2.1 ∈ wsX8_get := by decide +kernel
set_option maxHeartbeats 4000000 in
set_option maxRecDepth 100000 in
theorem c_X8_get {l : Launch} {G : Gy} (hG : Inj G) (σ : St) {w i : Int} (hz : ∀ k, 0 ≤ k → k < 4 → -1 ≤ σ 102 k ∧ σ 102 k ≤ 24) (hr : ∀ j, 0 ≤ j → j < 96 → lR (σ 101 j)) (hw : iR w) (hi : iR i) : ML l yX8_get wsX8_get ({ frames := 3, cells := 0, slots := 0, locals := 65 } : Room) G [.ref (G.2.2 82), .int (zI (w)), .int (zI (i))] σ (fun x σ2 => σ2 = σ ∧ ((¬ ((0 ≤ w ∧ w < 4) ∧ (0 ≤ i ∧ i < σ 102 w)) ∧ x = -9223372036854775808) ∨ (((0 ≤ w ∧ w < 4) ∧ (0 ≤ i ∧ i < σ 102 w)) ∧ x = σ 101 (24 * w + i)))) := by
  refine ML.of hG (by decide +kernel) rfl rfl (Nat.le_of_ble_eq_true rfl) rfl ?_
  intro p e s m args below meth c H0 Q hC hret
  refine wp_aload_n hC dX8_get_0 rfl ?_
  refine wp_geta (k := 7) hC (rfl) (by decide) (rfl) (rfl) (by decide) uX8_get_X8 fX8_get_57 (rfl) dX8_get_1 ?_
  refine wp_iload_n hC dX8_get_4 rfl ?_
  refine wp_iload_n hC dX8_get_5 rfl ?_
  refine wp_callVb (As := [_, _]) hC (c_X4_hasPlace hG _ (by omega) (by omega) hz) gX8_get_X4_hasPlace rfl ⟨rfl, rfl⟩ ⟨by decide, by decide⟩ hyVX4_hasPlace (rfl) (by decide) (rfl) rfl (Nat.le_of_ble_eq_true rfl) dX8_get_6 (fun hx_6 => ?_)
  refine wp_ifb_eq (tgt := 24) hC dX8_get_9 (by decide) (fun c_9 => ?_) (fun c_9 => ?_)
  · refine wp_ldc2 (n := (-9223372036854775808)) hC dX8_get_24 (by decide +kernel) ?_
    exact hret _ _ _ _ (by omega) (⟨rfl, Or.inl ⟨c_9, rfl⟩⟩) dX8_get_27
  · refine wp_aload_n hC dX8_get_12 rfl ?_
    refine wp_geta (k := 7) hC (rfl) (by decide) (rfl) (rfl) (by decide) uX8_get_X8 fX8_get_57 (rfl) dX8_get_13 ?_
    refine wp_iload_n hC dX8_get_16 rfl ?_
    refine wp_iload_n hC dX8_get_17 rfl ?_
    refine wp_callVl (As := [_, _]) hC (c_X4_read hG σ (w := w) (i := i) (by omega) (by omega) hz hr) gX8_get_X4_read rfl ⟨rfl, rfl⟩ ⟨by decide, by decide⟩ hyVX4_read (rfl) (by decide) (rfl) rfl (Nat.le_of_ble_eq_true rfl) dX8_get_18 (fun x_18 s_18 hx_18 hp_18 => ?_)
    obtain ⟨rfl, hx9⟩ := hp_18
    rw [if_pos c_9] at hx9
    refine wp_goto (tgt := 27) hC dX8_get_21 (by decide) ?_
    exact hret _ _ _ _ (hx_18) (⟨rfl, Or.inr ⟨c_9, hx9⟩⟩) dX8_get_27

/-- whether the j-th number of a row comes as a supply, as the class has it -/
def goX (σ : St) (w i q j : Int) : Prop := q + j < 12 ∧ i + j < σ 102 w ∧ 0 ≤ σ 101 (24 * w + i + j) ∧ σ 101 (24 * w + i + j) ≤ 99
def FRX (σ : St) (w i it q n : Int) : St := fun a b => if a = 109 ∧ 12 * it + q ≤ b ∧ b < 12 * it + q + n then σ 101 (24 * w + i + (b - (12 * it + q))) else σ a b
theorem FRX_0 {σ : St} {w i it q : Int} : σ = FRX σ w i it q 0 := by
  funext a b
  unfold FRX
  rw [if_neg (by omega)]
theorem FRX_s {σ : St} {w i it q n : Int} (h : 0 ≤ n) : put (FRX σ w i it q n) 109 (12 * it + (q + n)) (σ 101 (24 * w + i + n)) = FRX σ w i it q (n + 1) := by
  funext a b
  by_cases z : a = 109 ∧ b = 12 * it + (q + n)
  · rw [z.1, z.2, put_s]
    unfold FRX
    rw [if_pos (by omega)]
    congr 1
    omega
  · rw [put_q z]
    unfold FRX
    by_cases y : a = 109 ∧ 12 * it + q ≤ b ∧ b < 12 * it + q + n
    · rw [if_pos y, if_pos (by omega)]
    · rw [if_neg y, if_neg (by omega)]

theorem hyVX8_from : yX8_from.cls = RX8 ∧ yX8_from.cls ≠ "java/lang/invoke/MethodHandle" ∧ yX8_from.cls ≠ "java/lang/invoke/VarHandle" ∧ (parseMethodDescriptor yX8_from.desc).map (fun d => d.parameters.length) = some 4 := by decide +kernel
theorem uX8_from_X8 : ∀ w ∈ u_ws RX8 TX8 13, w ∈ wsX8_from := by decide +kernel
theorem fX8_from_57 : Cond.fieldLink RX8 57 (TX8 7).1 (TX8 7).2.1 (TX8 7).2.2.1 ∈ wsX8_from := by decide +kernel
theorem fX8_from_19 : Cond.fieldLink RX8 19 (TX8 1).1 (TX8 1).2.1 (TX8 1).2.2.1 ∈ wsX8_from := by decide +kernel
theorem uX8_from_X5 : ∀ w ∈ u_ws RX5 TX5 5, w ∈ wsX8_from := by decide +kernel
set_option maxHeartbeats 8000000 in
set_option maxRecDepth 100000 in
theorem c_X8_from {l : Launch} {G : Gy} (hG : Inj G) (σ : St) {w i it q : Int} (h : XO σ) (hL : XL σ) (hz : ∀ k, 0 ≤ k → k < 4 → -1 ≤ σ 102 k ∧ σ 102 k ≤ 24) (hr : ∀ j, 0 ≤ j → j < 96 → lR (σ 101 j)) (hw : iR w) (hi : iR i) (hit : iR it) (hq : iR q) : MI l yX8_from wsX8_from ({ frames := 4, cells := 0, slots := 0, locals := 82 } : Room) G [.ref (G.2.2 82), .int (zI (w)), .int (zI (i)), .int (zI (it)), .int (zI (q))] σ (fun x σ2 => (¬ ((0 ≤ w ∧ w < 4) ∧ ((0 ≤ it ∧ it ≤ 2) ∧ (0 ≤ q ∧ q ≤ 11))) ∧ x = -1 ∧ σ2 = σ) ∨ (((0 ≤ w ∧ w < 4) ∧ ((0 ≤ it ∧ it ≤ 2) ∧ (0 ≤ q ∧ q ≤ 11))) ∧ σ 102 w < 0 ∧ x = -11 ∧ σ2 = σ) ∨ (((0 ≤ w ∧ w < 4) ∧ ((0 ≤ it ∧ it ≤ 2) ∧ (0 ≤ q ∧ q ≤ 11))) ∧ 0 ≤ σ 102 w ∧ i < 0 ∧ x = -13 ∧ σ2 = σ) ∨ (((0 ≤ w ∧ w < 4) ∧ ((0 ≤ it ∧ it ≤ 2) ∧ (0 ≤ q ∧ q ≤ 11))) ∧ 0 ≤ σ 102 w ∧ 0 ≤ i ∧ 0 ≤ x ∧ (∀ j, 0 ≤ j → j < x → goX σ w i q j) ∧ ¬ goX σ w i q x ∧ σ2 = NCH (FRX σ w i it q x))) := by
  refine MI.of hG (by decide +kernel) rfl rfl (Nat.le_of_ble_eq_true rfl) rfl ?_
  intro p e s m args below meth c H0 Q hC hret
  have hn := h.1
  have L128 : ∀ (k : Int), (((0 ≤ w ∧ w < 4) ∧ ((0 ≤ it ∧ it ≤ 2) ∧ (0 ≤ q ∧ q ≤ 11))) ∧ 0 ≤ σ 102 w ∧ 0 ≤ i) → (0 ≤ k ∧ q + k ≤ 12) → (∀ j, 0 ≤ j → j < k → goX σ w i q j) → (¬ goX σ w i q k) → wp p l e ({ frames := 4, cells := 0, slots := 0, locals := 82 } : Room) s m args below meth c (aA G (Array.size H0)) H0 9 Q G (FRX σ w i it q k) 128 [(0, .ref (G.2.2 82)), (1, .int (zI (w))), (2, .int (zI (i))), (3, .int (zI (it))), (4, .int (zI (q))), (5, .int (zI (i + k))), (6, .int (zI (q + k)))] [] := by
    intro k g0 h1 h2 h3
    refine wp_aload_n hC dX8_from_128 rfl ?_
    refine wp_callVu (As := []) hC (c_X8_noteChange hG (FRX σ w i it q k) hn hL.1 hL.2) gX8_from_X8_noteChange rfl ⟨rfl, rfl⟩ ⟨by decide, by decide⟩ hyVX8_noteChange (rfl) (by decide) (rfl) rfl (Nat.le_of_ble_eq_true rfl) dX8_from_129 ?_
    refine wp_iload hC dX8_from_132 rfl ?_
    refine wp_iload hC dX8_from_134 rfl ?_
    refine wp_isub hC dX8_from_136 ?_
    refine wp_top (b := k) (by omega) ?_
    exact hret _ _ _ _ (by omega) rfl (Or.inr (Or.inr (Or.inr ⟨g0.1, g0.2.1, g0.2.2, h1.1, h2, h3, rfl⟩))) dX8_from_137
  have L50 : ∀ (n : Nat) (k : Int), ((12 - k).toNat) = n → (((0 ≤ w ∧ w < 4) ∧ ((0 ≤ it ∧ it ≤ 2) ∧ (0 ≤ q ∧ q ≤ 11))) ∧ 0 ≤ σ 102 w ∧ 0 ≤ i) → (0 ≤ k ∧ q + k ≤ 12) → (∀ j, 0 ≤ j → j < k → goX σ w i q j) → (k = 0 ∨ i + k ≤ 24) → wp p l e ({ frames := 4, cells := 0, slots := 0, locals := 82 } : Room) s m args below meth c (aA G (Array.size H0)) H0 9 Q G (FRX σ w i it q k) 50 [(0, .ref (G.2.2 82)), (1, .int (zI (w))), (2, .int (zI (i))), (3, .int (zI (it))), (4, .int (zI (q))), (5, .int (zI (i + k))), (6, .int (zI (q + k)))] [] := by
    intro n50
    induction n50 using Nat.strongRecOn with
    | ind n50 ih =>
      intro k hm50 g0 h1 h2 h4
      have hsw := hz w (by omega) (by omega)
      refine wp_iload hC dX8_from_50 rfl ?_
      refine wp_bipush hC dX8_from_52 rfl ?_
      refine wp_icmp_ge (tgt := 128) hC dX8_from_54 (by decide) (by omega) (by omega) (fun c_54 => ?_) (fun c_54 => ?_)
      · exact L128 _ g0 h1 h2 (fun z => by have z1 := z.1; omega)
      · refine wp_aload_n hC dX8_from_57 rfl ?_
        refine wp_geta (k := 7) hC (rfl) (by decide) (rfl) (rfl) (by decide) uX8_from_X8 fX8_from_57 (rfl) dX8_from_58 ?_
        refine wp_iload_n hC dX8_from_61 rfl ?_
        refine wp_iload hC dX8_from_62 rfl ?_
        refine wp_callVb (As := [_, _]) hC (c_X4_hasPlace hG (FRX σ w i it q k) (s1 := w) (i := i + k) (by omega) (by omega) hz) gX8_from_X4_hasPlace rfl ⟨rfl, rfl⟩ ⟨by decide, by decide⟩ hyVX4_hasPlace (rfl) (by decide) (rfl) rfl (Nat.le_of_ble_eq_true rfl) dX8_from_64 (fun hx_64 => ?_)
        refine wp_ifb_eq (tgt := 128) hC dX8_from_67 (by decide) (fun c_67 => ?_) (fun c_67 => ?_)
        · exact L128 _ g0 h1 h2 (fun z => c_67 ⟨g0.1.1, by omega, z.2.1⟩)
        · refine wp_aload_n hC dX8_from_70 rfl ?_
          refine wp_geta (k := 7) hC (rfl) (by decide) (rfl) (rfl) (by decide) uX8_from_X8 fX8_from_57 (rfl) dX8_from_71 ?_
          refine wp_iload_n hC dX8_from_74 rfl ?_
          refine wp_iload hC dX8_from_75 rfl ?_
          refine wp_callVl (As := [_, _]) hC (c_X4_read hG (FRX σ w i it q k) (w := w) (i := i + k) (by omega) (by have := c_67.2; omega) hz hr) gX8_from_X4_read rfl ⟨rfl, rfl⟩ ⟨by decide, by decide⟩ hyVX4_read (rfl) (by decide) (rfl) rfl (Nat.le_of_ble_eq_true rfl) dX8_from_77 (fun x_77 s_77 hx_77 hp_77 => ?_)
          obtain ⟨rfl, hx9⟩ := hp_77
          have hx9 : x_77 = σ 101 (24 * w + i + k) := by
            rw [if_pos c_67] at hx9
            rw [hx9, Int.add_assoc]
            rfl
          refine wp_lstore (lv2 := [(7, _), (0, _), (1, _), (2, _), (3, _), (4, _), (5, _), (6, _)]) hC dX8_from_80 rfl (by decide) ?_
          refine wp_lv hC [1, 2, 3, 4, 5, 6, 7, 0] rfl ?_
          refine wp_lload hC dX8_from_82 rfl ?_
          refine wp_lconst hC dX8_from_84 ?_
          refine wp_lcmp hC dX8_from_85 (hx_77) (by decide) ?_
          refine wp_if_lt (tgt := 128) hC dX8_from_86 (by decide) (iR_lcI) (fun c_86 => ?_) (fun c_86 => ?_)
          · refine wp_lv hC [0, 1, 2, 3, 4, 5, 6] rfl ?_
            exact L128 _ g0 h1 h2 (fun z => by have z2 := z.2.2.1; rw [← hx9] at z2; exact absurd (lcI_ge.mpr z2) (Int.not_le.mpr c_86))
          · refine wp_lload hC dX8_from_89 rfl ?_
            refine wp_ldc2 (n := 99) hC dX8_from_91 (by decide +kernel) ?_
            refine wp_lcmp hC dX8_from_94 (hx_77) (by decide) ?_
            refine wp_if_le (tgt := 101) hC dX8_from_95 (by decide) (iR_lcI) (fun c_95 => ?_) (fun c_95 => ?_)
            · have hx10 : 0 ≤ x_77 := lcI_ge.mp c_86
              have hx11 : x_77 ≤ 99 := lcI_le.mp c_95
              refine wp_aload_n hC dX8_from_101 rfl ?_
              refine wp_geta (k := 1) hC (rfl) (by decide) (rfl) (rfl) (by decide) uX8_from_X8 fX8_from_19 (rfl) dX8_from_102 ?_
              refine wp_getaN (k := 0) hC (rfl) (by decide) (rfl) (rfl) (by decide) uX8_from_X5 fnX8_80 (rfl) dX8_from_105 ?_
              refine wp_iload_n hC dX8_from_108 rfl ?_
              refine wp_bipush hC dX8_from_109 rfl ?_
              refine wp_imul hC dX8_from_111 ?_
              refine wp_iload hC dX8_from_112 rfl ?_
              refine wp_iadd hC dX8_from_114 ?_
              refine wp_top (b := 12 * it + (q + k)) (by omega) ?_
              refine wp_lload hC dX8_from_115 rfl ?_
              refine wp_l2i hC dX8_from_117 (by omega) ?_
              refine wp_iast (n := 36) hC (rfl) (Nat.le_of_ble_eq_true rfl) (rfl) (by decide) (by omega) dX8_from_118 ?_
              refine wp_iinc (lv2 := [(0, _), (1, _), (2, _), (3, _), (4, _), (5, _), (6, _), (7, _)]) hC dX8_from_119 rfl rfl (by decide) ?_
              refine wp_iinc (lv2 := [(0, _), (1, _), (2, _), (3, _), (4, _), (5, _), (6, _), (7, _)]) hC dX8_from_122 rfl rfl (by decide) ?_
              refine wp_goto (tgt := 50) hC dX8_from_125 (by decide) ?_
              refine wp_lv hC [0, 1, 2, 3, 4, 5, 6] rfl ?_
              refine wp_st (σ2 := FRX σ w i it q (k + 1)) (by rw [hx9]; exact FRX_s h1.1) ?_
              rw [show i + k + 1 = i + (k + 1) by omega, show q + k + 1 = q + (k + 1) by omega]
              exact ih _ (by omega) _ rfl g0 (by omega) (fun j a b => by
                rcases Int.lt_or_le j k with z | z
                · exact h2 j a z
                · rw [show j = k by omega]; exact ⟨by omega, c_67.2.2, by rw [← hx9]; exact hx10, by rw [← hx9]; exact hx11⟩) (Or.inr (by have : i + k < σ 102 w := c_67.2.2; omega))
            · refine wp_goto (tgt := 128) hC dX8_from_98 (by decide) ?_
              refine wp_lv hC [0, 1, 2, 3, 4, 5, 6] rfl ?_
              exact L128 _ g0 h1 h2 (fun z => by have z2 := z.2.2.2; rw [← hx9] at z2; exact absurd (lcI_le.mpr z2) (Int.not_le.mpr c_95))
  refine wp_aload_n hC dX8_from_0 rfl ?_
  refine wp_geta (k := 7) hC (rfl) (by decide) (rfl) (rfl) (by decide) uX8_from_X8 fX8_from_57 (rfl) dX8_from_1 ?_
  refine wp_iload_n hC dX8_from_4 rfl ?_
  refine wp_callVb (As := [_]) hC (c_X4_has hG _ (by omega)) gX8_from_X4_has rfl ⟨rfl, rfl⟩ ⟨by decide, by decide⟩ hyVX4_has (rfl) (by decide) (rfl) rfl (Nat.le_of_ble_eq_true rfl) dX8_from_5 (fun hx_5 => ?_)
  refine wp_ifb_eq (tgt := 20) hC dX8_from_8 (by decide) (fun c_8 => ?_) (fun c_8 => ?_)
  · refine wp_iconst hC dX8_from_20 ?_
    exact hret _ _ _ _ (by omega) rfl (Or.inl ⟨fun z => c_8 z.1, rfl, rfl⟩) dX8_from_21
  · refine wp_iload_n hC dX8_from_11 rfl ?_
    refine wp_iload hC dX8_from_12 rfl ?_
    refine wp_callSb (As := [_, _]) hC (c_X8_isSupply hG σ (i := it) (p := q) (by omega) (by omega)) gX8_from_X8_isSupply rfl ⟨rfl, rfl⟩ ⟨by decide, by decide⟩ hySX8_isSupply rfl (Nat.le_of_ble_eq_true rfl) dX8_from_14 (fun hx_14 => ?_)
    refine wp_ifb_ne (tgt := 22) hC dX8_from_17 (by decide) (fun c_17 => ?_) (fun c_17 => ?_)
    · refine wp_aload_n hC dX8_from_22 rfl ?_
      refine wp_geta (k := 7) hC (rfl) (by decide) (rfl) (rfl) (by decide) uX8_from_X8 fX8_from_57 (rfl) dX8_from_23 ?_
      refine wp_iload_n hC dX8_from_26 rfl ?_
      refine wp_callVb (As := [_]) hC (c_X4_isEmpty hG _ (by omega) hz) gX8_from_X4_isEmpty rfl ⟨rfl, rfl⟩ ⟨by decide, by decide⟩ hyVX4_isEmpty (rfl) (by decide) (rfl) rfl (Nat.le_of_ble_eq_true rfl) dX8_from_27 (fun hx_27 => ?_)
      refine wp_ifb_eq (tgt := 36) hC dX8_from_30 (by decide) (fun c_30 => ?_) (fun c_30 => ?_)
      · have hsw0 : 0 ≤ σ 102 w := by
          rcases Int.lt_or_le (σ 102 w) 0 with z | z
          · exact absurd ⟨c_8, z⟩ c_30
          · exact z
        refine wp_iload_n hC dX8_from_36 rfl ?_
        refine wp_if_ge (tgt := 43) hC dX8_from_37 (by decide) (by omega) (fun c_37 => ?_) (fun c_37 => ?_)
        · refine wp_iload_n hC dX8_from_43 rfl ?_
          refine wp_top (b := i + 0) (by omega) ?_
          refine wp_istore (lv2 := [(0, _), (1, _), (2, _), (3, _), (4, _), (5, _)]) hC dX8_from_44 rfl (by decide) ?_
          refine wp_iload hC dX8_from_46 rfl ?_
          refine wp_top (b := q + 0) (by omega) ?_
          refine wp_istore (lv2 := [(0, _), (1, _), (2, _), (3, _), (4, _), (5, _), (6, _)]) hC dX8_from_48 rfl (by decide) ?_
          refine wp_st (FRX_0 (w := w) (i := i) (it := it) (q := q)) ?_
          exact L50 _ 0 rfl ⟨⟨c_8, c_17⟩, hsw0, by omega⟩ (by omega) (fun j a b => by omega) (Or.inl rfl)
        · refine wp_bipush hC dX8_from_40 rfl ?_
          exact hret _ _ _ _ (by omega) rfl (Or.inr (Or.inr (Or.inl ⟨⟨c_8, c_17⟩, hsw0, by omega, rfl, rfl⟩))) dX8_from_42
      · refine wp_bipush hC dX8_from_33 rfl ?_
        exact hret _ _ _ _ (by omega) rfl (Or.inr (Or.inl ⟨⟨c_8, c_17⟩, c_30.2, rfl, rfl⟩)) dX8_from_35
    · refine wp_iconst hC dX8_from_20 ?_
      exact hret _ _ _ _ (by omega) rfl (Or.inl ⟨fun z => c_17 z.2, rfl, rfl⟩) dX8_from_21

def LJX (σ : St) (j : Int) : Int := LFT (σ 109) (σ 83 5) (σ 84) (σ 85) (σ 112) (fun o => decide (σ 111 o = 1)) j j j
def LTX (σ : St) (w i n : Int) : St := fun a b => if a = 101 ∧ 24 * w + i ≤ b ∧ b < 24 * w + i + n then LJX σ (b - (24 * w + i) + 1) else σ a b
theorem LTX_0 {σ : St} {w i : Int} : σ = LTX σ w i 0 := by
  funext a b
  unfold LTX
  rw [if_neg (by omega)]
theorem LTX_s {σ : St} {w i n : Int} (h : 0 ≤ n) : put (LTX σ w i n) 101 (24 * w + (i + n)) (LJX σ (n + 1)) = LTX σ w i (n + 1) := by
  funext a b
  by_cases z : a = 101 ∧ b = 24 * w + (i + n)
  · rw [z.1, z.2, put_s]
    unfold LTX
    rw [if_pos (by omega)]
    congr 1
    omega
  · rw [put_q z]
    unfold LTX
    by_cases y : a = 101 ∧ 24 * w + i ≤ b ∧ b < 24 * w + i + n
    · rw [if_pos y, if_pos (by omega)]
    · rw [if_neg y, if_neg (by omega)]

theorem hyVX8_lefts : yX8_lefts.cls = RX8 ∧ yX8_lefts.cls ≠ "java/lang/invoke/MethodHandle" ∧ yX8_lefts.cls ≠ "java/lang/invoke/VarHandle" ∧ (parseMethodDescriptor yX8_lefts.desc).map (fun d => d.parameters.length) = some 2 := by decide +kernel
theorem uX8_lefts_X8 : ∀ w ∈ u_ws RX8 TX8 13, w ∈ wsX8_lefts := by decide +kernel
theorem fX8_lefts_57 : Cond.fieldLink RX8 57 (TX8 7).1 (TX8 7).2.1 (TX8 7).2.2.1 ∈ wsX8_lefts := by decide +kernel
set_option maxHeartbeats 8000000 in
set_option maxRecDepth 100000 in
theorem c_X8_lefts {l : Launch} {G : Gy} (hG : Inj G) (σ : St) {w i : Int} (h : XO σ) (hz : ∀ k, 0 ≤ k → k < 4 → -1 ≤ σ 102 k ∧ σ 102 k ≤ 24) (hw : iR w) (hi : iR i) : MI l yX8_lefts wsX8_lefts ({ frames := 3, cells := 0, slots := 0, locals := 67 } : Room) G [.ref (G.2.2 82), .int (zI (w)), .int (zI (i))] σ (fun x σ2 => (¬ (0 ≤ w ∧ w < 4) ∧ x = -1 ∧ σ2 = σ) ∨ ((0 ≤ w ∧ w < 4) ∧ σ 102 w < 0 ∧ x = -11 ∧ σ2 = σ) ∨ ((0 ≤ w ∧ w < 4) ∧ 0 ≤ σ 102 w ∧ i < 0 ∧ x = -13 ∧ σ2 = σ) ∨ ((0 ≤ w ∧ w < 4) ∧ 0 ≤ σ 102 w ∧ 0 ≤ i ∧ x = max 0 (min 12 (σ 102 w - i)) ∧ σ2 = LTX σ w i x)) := by
  refine MI.of hG (by decide +kernel) rfl rfl (Nat.le_of_ble_eq_true rfl) rfl ?_
  intro p e s m args below meth c H0 Q hC hret
  have L36 : ∀ (n : Nat) (k : Int), ((12 - k).toNat) = n → ((0 ≤ w ∧ w < 4) ∧ 0 ≤ σ 102 w ∧ 0 ≤ i) → (0 ≤ k ∧ k ≤ max 0 (min 12 (σ 102 w - i))) → wp p l e ({ frames := 3, cells := 0, slots := 0, locals := 67 } : Room) s m args below meth c (aA G (Array.size H0)) H0 4 Q G (LTX σ w i k) 36 [(0, .ref (G.2.2 82)), (1, .int (zI (w))), (2, .int (zI (i))), (3, .int (zI (k)))] [] := by
    intro n36
    induction n36 using Nat.strongRecOn with
    | ind n36 ih =>
      intro k hm36 g0 h1
      have hsw := hz w (by omega) (by omega)
      refine wp_iload_n hC dX8_lefts_36 rfl ?_
      refine wp_bipush hC dX8_lefts_37 rfl ?_
      refine wp_icmp_ge (tgt := 87) hC dX8_lefts_39 (by decide) (by omega) (by omega) (fun c_39 => ?_) (fun c_39 => ?_)
      · refine wp_iload_n hC dX8_lefts_87 rfl ?_
        exact hret _ _ _ _ (by omega) rfl (Or.inr (Or.inr (Or.inr ⟨g0.1, g0.2.1, g0.2.2, by omega, rfl⟩))) dX8_lefts_88
      · refine wp_aload_n hC dX8_lefts_42 rfl ?_
        refine wp_geta (k := 7) hC (rfl) (by decide) (rfl) (rfl) (by decide) uX8_lefts_X8 fX8_lefts_57 (rfl) dX8_lefts_43 ?_
        refine wp_iload_n hC dX8_lefts_46 rfl ?_
        refine wp_iload_n hC dX8_lefts_47 rfl ?_
        refine wp_iload_n hC dX8_lefts_48 rfl ?_
        refine wp_iadd hC dX8_lefts_49 ?_
        refine wp_callVb (As := [_, _]) hC (c_X4_hasPlace hG (LTX σ w i k) (s1 := w) (i := i + k) (by omega) (by omega) hz) gX8_lefts_X4_hasPlace rfl ⟨rfl, rfl⟩ ⟨by decide, by decide⟩ hyVX4_hasPlace (rfl) (by decide) (rfl) rfl (Nat.le_of_ble_eq_true rfl) dX8_lefts_50 (fun hx_50 => ?_)
        refine wp_ifb_eq (tgt := 87) hC dX8_lefts_53 (by decide) (fun c_53 => ?_) (fun c_53 => ?_)
        · refine wp_iload_n hC dX8_lefts_87 rfl ?_
          exact hret _ _ _ _ (by omega) rfl (Or.inr (Or.inr (Or.inr ⟨g0.1, g0.2.1, g0.2.2, by
            have hno : ¬ (0 ≤ i + k ∧ i + k < σ 102 w) := fun z => c_53 ⟨g0.1, z⟩
            omega, rfl⟩))) dX8_lefts_88
        · refine wp_aload_n hC dX8_lefts_56 rfl ?_
          refine wp_geta (k := 7) hC (rfl) (by decide) (rfl) (rfl) (by decide) uX8_lefts_X8 fX8_lefts_57 (rfl) dX8_lefts_57 ?_
          refine wp_iload_n hC dX8_lefts_60 rfl ?_
          refine wp_iload_n hC dX8_lefts_61 rfl ?_
          refine wp_iload_n hC dX8_lefts_62 rfl ?_
          refine wp_iadd hC dX8_lefts_63 ?_
          refine wp_aload_n hC dX8_lefts_64 rfl ?_
          refine wp_iload_n hC dX8_lefts_65 rfl ?_
          refine wp_iconst hC dX8_lefts_66 ?_
          refine wp_iadd hC dX8_lefts_67 ?_
          refine wp_iload_n hC dX8_lefts_68 rfl ?_
          refine wp_iconst hC dX8_lefts_69 ?_
          refine wp_iadd hC dX8_lefts_70 ?_
          refine wp_iload_n hC dX8_lefts_71 rfl ?_
          refine wp_iconst hC dX8_lefts_72 ?_
          refine wp_iadd hC dX8_lefts_73 ?_
          refine wp_callVe (As := [_, _, _]) hC (c_X8_leftAt hG (LTX σ w i k) (f := k + 1) (u := k + 1) (t := k + 1) h (by omega) (by omega) (by omega)) gX8_lefts_X8_leftAt rfl ⟨rfl, rfl⟩ ⟨by decide, by decide⟩ hyVX8_leftAt (rfl) (by decide) (rfl) rfl (Nat.le_of_ble_eq_true rfl) dX8_lefts_74 (fun hx_74 => ?_)
          refine wp_top (b := LJX σ (k + 1)) rfl ?_
          have hx_74 : iR (LJX σ (k + 1)) := hx_74
          refine wp_i2l hC dX8_lefts_77 (by omega) ?_
          refine wp_callVu (As := [_, _, _]) hC (c_X4_write hG (LTX σ w i k) (w := w) (i := i + k) (v := LJX σ (k + 1)) g0.1 c_53.2 hz) gX8_lefts_X4_write rfl ⟨rfl, rfl⟩ ⟨by decide, by decide⟩ hyVX4_write (rfl) (by decide) (rfl) rfl (Nat.le_of_ble_eq_true rfl) dX8_lefts_78 ?_
          refine wp_iinc (lv2 := [(0, _), (1, _), (2, _), (3, _)]) hC dX8_lefts_81 rfl rfl (by decide) ?_
          refine wp_goto (tgt := 36) hC dX8_lefts_84 (by decide) ?_
          refine wp_st (LTX_s h1.1) ?_
          exact ih _ (by omega) _ rfl g0 (by have : i + k < σ 102 w := c_53.2.2; omega)
  refine wp_aload_n hC dX8_lefts_0 rfl ?_
  refine wp_geta (k := 7) hC (rfl) (by decide) (rfl) (rfl) (by decide) uX8_lefts_X8 fX8_lefts_57 (rfl) dX8_lefts_1 ?_
  refine wp_iload_n hC dX8_lefts_4 rfl ?_
  refine wp_callVb (As := [_]) hC (c_X4_has hG _ (by omega)) gX8_lefts_X4_has rfl ⟨rfl, rfl⟩ ⟨by decide, by decide⟩ hyVX4_has (rfl) (by decide) (rfl) rfl (Nat.le_of_ble_eq_true rfl) dX8_lefts_5 (fun hx_5 => ?_)
  refine wp_ifb_ne (tgt := 13) hC dX8_lefts_8 (by decide) (fun c_8 => ?_) (fun c_8 => ?_)
  · refine wp_aload_n hC dX8_lefts_13 rfl ?_
    refine wp_geta (k := 7) hC (rfl) (by decide) (rfl) (rfl) (by decide) uX8_lefts_X8 fX8_lefts_57 (rfl) dX8_lefts_14 ?_
    refine wp_iload_n hC dX8_lefts_17 rfl ?_
    refine wp_callVb (As := [_]) hC (c_X4_isEmpty hG _ (by omega) hz) gX8_lefts_X4_isEmpty rfl ⟨rfl, rfl⟩ ⟨by decide, by decide⟩ hyVX4_isEmpty (rfl) (by decide) (rfl) rfl (Nat.le_of_ble_eq_true rfl) dX8_lefts_18 (fun hx_18 => ?_)
    refine wp_ifb_eq (tgt := 27) hC dX8_lefts_21 (by decide) (fun c_21 => ?_) (fun c_21 => ?_)
    · have hsw0 : 0 ≤ σ 102 w := by
        rcases Int.lt_or_le (σ 102 w) 0 with z | z
        · exact absurd ⟨c_8, z⟩ c_21
        · exact z
      have hsw := hz w (by omega) (by omega)
      refine wp_iload_n hC dX8_lefts_27 rfl ?_
      refine wp_if_ge (tgt := 34) hC dX8_lefts_28 (by decide) (by omega) (fun c_28 => ?_) (fun c_28 => ?_)
      · refine wp_iconst hC dX8_lefts_34 ?_
        refine wp_istore_n (lv2 := [(0, _), (1, _), (2, _), (3, _)]) hC dX8_lefts_35 rfl (by decide) ?_
        refine wp_st (LTX_0 (w := w) (i := i)) ?_
        exact L36 _ 0 rfl ⟨c_8, hsw0, by omega⟩ (by omega)
      · refine wp_bipush hC dX8_lefts_31 rfl ?_
        exact hret _ _ _ _ (by omega) rfl (Or.inr (Or.inr (Or.inl ⟨c_8, hsw0, by omega, rfl, rfl⟩))) dX8_lefts_33
    · refine wp_bipush hC dX8_lefts_24 rfl ?_
      exact hret _ _ _ _ (by omega) rfl (Or.inr (Or.inl ⟨c_8, c_21.2, rfl, rfl⟩)) dX8_lefts_26
  · refine wp_iconst hC dX8_lefts_11 ?_
    exact hret _ _ _ _ (by omega) rfl (Or.inl ⟨c_8, rfl, rfl⟩) dX8_lefts_12

theorem hyVX8_count : yX8_count.cls = RX8 ∧ yX8_count.cls ≠ "java/lang/invoke/MethodHandle" ∧ yX8_count.cls ≠ "java/lang/invoke/VarHandle" ∧ (parseMethodDescriptor yX8_count.desc).map (fun d => d.parameters.length) = some 1 := by decide +kernel
theorem uX8_count_X8 : ∀ w ∈ u_ws RX8 TX8 13, w ∈ wsX8_count := by decide +kernel
theorem fX8_count_12 : Cond.fieldLink RX8 12 (TX8 0).1 (TX8 0).2.1 (TX8 0).2.2.1 ∈ wsX8_count := by decide +kernel
theorem uX8_count_X0 : ∀ w ∈ u_ws RX0 TX0 6, w ∈ wsX8_count := by decide +kernel
theorem fX8_count_36 : Cond.fieldLink RX8 36 (TX8 4).1 (TX8 4).2.1 (TX8 4).2.2.1 ∈ wsX8_count := by decide +kernel
theorem uX8_count_X7 : ∀ w ∈ u_ws RX7 TX7 4, w ∈ wsX8_count := by decide +kernel
theorem fX8_count_29 : Cond.fieldLink RX8 29 (TX8 3).1 (TX8 3).2.1 (TX8 3).2.2.1 ∈ wsX8_count := by decide +kernel
theorem uX8_count_X2 : ∀ w ∈ u_ws RX2 TX2 3, w ∈ wsX8_count := by decide +kernel
set_option maxHeartbeats 4000000 in
set_option maxRecDepth 100000 in
theorem c_X8_count {l : Launch} {G : Gy} (hG : Inj G) (σ : St) {wh : Int} (h : XO σ) (hwh : iR wh) (h6 : iR (σ 106 1) ∧ iR (σ 106 2)) (hz : 0 ≤ σ 89 1 ∧ σ 89 1 ≤ 100) : MP l yX8_count wsX8_count ({ frames := 3, cells := 0, slots := 0, locals := 64 } : Room) G [.ref (G.2.2 82), .int (zI (wh))] σ (fun x => (wh = 0 ∧ x = σ 83 5) ∨ (wh = 1 ∧ x = pc (TX σ 0)) ∨ (wh = 2 ∧ x = pc (TX σ 1)) ∨ (wh = 3 ∧ x = pc (TX σ 2)) ∨ (wh = 4 ∧ x = σ 89 1) ∨ (wh = 5 ∧ x = σ 106 1) ∨ (wh = 6 ∧ x = σ 106 2) ∨ (wh = 7 ∧ x = sm (σ 109) 36) ∨ (wh = 8 ∧ x = amS (σ 83 5) (σ 84) (σ 87) (tb (TX σ 1)) (-1)) ∨ ((wh < 0 ∨ 8 < wh) ∧ x = -1)) := by
  refine MI.of hG (by decide +kernel) rfl rfl (Nat.le_of_ble_eq_true rfl) rfl ?_
  intro p e s m args below meth c H0 Q hC hret
  have hn := h.1
  have h61 := h6.1
  have h62 := h6.2
  refine wp_iload_n hC dX8_count_0 rfl ?_
  rcases (show (wh < 0 ∨ 8 < wh) ∨ wh = 0 ∨ wh = 1 ∨ wh = 2 ∨ wh = 3 ∨ wh = 4 ∨ wh = 5 ∨ wh = 6 ∨ wh = 7 ∨ wh = 8 from by omega) with c_1 | c_1 | c_1 | c_1 | c_1 | c_1 | c_1 | c_1 | c_1 | c_1
  · refine wp_tabOut (tgt := 118) hC dX8_count_1 (by omega) c_1 (by decide) ?_
    refine wp_iconst hC dX8_count_118 ?_
    exact hret _ _ _ _ (by omega) rfl (⟨Or.inr (Or.inr (Or.inr (Or.inr (Or.inr (Or.inr (Or.inr (Or.inr (Or.inr (⟨c_1, rfl⟩))))))))), rfl⟩) dX8_count_119
  · refine wp_tabIn (tgt := 52) (v := 0) hC dX8_count_1 c_1 (by decide) (by decide) (by decide) rfl (by decide) ?_
    refine wp_aload_n hC dX8_count_52 rfl ?_
    refine wp_geta (k := 0) hC (rfl) (by decide) (rfl) (rfl) (by decide) uX8_count_X8 fX8_count_12 (rfl) dX8_count_53 ?_
    refine wp_getiN (k := 5) (z := 5) hC rfl (rfl) (by decide) (rfl) (rfl) (by decide) uX8_count_X0 fnX8_116 (rfl) dX8_count_56 ?_
    refine wp_top (b := σ 83 5) rfl ?_
    exact hret _ _ _ _ (by omega) rfl (⟨Or.inl (⟨c_1, rfl⟩), rfl⟩) dX8_count_59
  · refine wp_tabIn (tgt := 60) (v := 1) hC dX8_count_1 c_1 (by decide) (by decide) (by decide) rfl (by decide) ?_
    refine wp_aload_n hC dX8_count_60 rfl ?_
    refine wp_iconst hC dX8_count_61 ?_
    refine wp_callVe (As := [_]) hC (c_X8_howMany hG _ h (by omega)) gX8_count_X8_howMany rfl ⟨rfl, rfl⟩ ⟨by decide, by decide⟩ hyVX8_howMany (rfl) (by decide) (rfl) rfl (Nat.le_of_ble_eq_true rfl) dX8_count_62 (fun hx_62 => ?_)
    exact hret _ _ _ _ (by assumption) rfl (⟨Or.inr (Or.inl (⟨c_1, rfl⟩)), rfl⟩) dX8_count_65
  · refine wp_tabIn (tgt := 66) (v := 2) hC dX8_count_1 c_1 (by decide) (by decide) (by decide) rfl (by decide) ?_
    refine wp_aload_n hC dX8_count_66 rfl ?_
    refine wp_iconst hC dX8_count_67 ?_
    refine wp_callVe (As := [_]) hC (c_X8_howMany hG _ h (by omega)) gX8_count_X8_howMany rfl ⟨rfl, rfl⟩ ⟨by decide, by decide⟩ hyVX8_howMany (rfl) (by decide) (rfl) rfl (Nat.le_of_ble_eq_true rfl) dX8_count_68 (fun hx_68 => ?_)
    exact hret _ _ _ _ (by assumption) rfl (⟨Or.inr (Or.inr (Or.inl (⟨c_1, rfl⟩))), rfl⟩) dX8_count_71
  · refine wp_tabIn (tgt := 72) (v := 3) hC dX8_count_1 c_1 (by decide) (by decide) (by decide) rfl (by decide) ?_
    refine wp_aload_n hC dX8_count_72 rfl ?_
    refine wp_iconst hC dX8_count_73 ?_
    refine wp_callVe (As := [_]) hC (c_X8_howMany hG _ h (by omega)) gX8_count_X8_howMany rfl ⟨rfl, rfl⟩ ⟨by decide, by decide⟩ hyVX8_howMany (rfl) (by decide) (rfl) rfl (Nat.le_of_ble_eq_true rfl) dX8_count_74 (fun hx_74 => ?_)
    exact hret _ _ _ _ (by assumption) rfl (⟨Or.inr (Or.inr (Or.inr (Or.inl (⟨c_1, rfl⟩)))), rfl⟩) dX8_count_77
  · refine wp_tabIn (tgt := 78) (v := 4) hC dX8_count_1 c_1 (by decide) (by decide) (by decide) rfl (by decide) ?_
    refine wp_aload_n hC dX8_count_78 rfl ?_
    refine wp_geta (k := 4) hC (rfl) (by decide) (rfl) (rfl) (by decide) uX8_count_X8 fX8_count_36 (rfl) dX8_count_79 ?_
    refine wp_getiN (k := 1) (z := 1) hC rfl (rfl) (by decide) (rfl) (rfl) (by decide) uX8_count_X7 fnX8_112 (rfl) dX8_count_82 ?_
    refine wp_top (b := σ 89 1) rfl ?_
    exact hret _ _ _ _ (by omega) rfl (⟨Or.inr (Or.inr (Or.inr (Or.inr (Or.inl (⟨c_1, rfl⟩))))), rfl⟩) dX8_count_85
  · refine wp_tabIn (tgt := 86) (v := 5) hC dX8_count_1 c_1 (by decide) (by decide) (by decide) rfl (by decide) ?_
    refine wp_aload_n hC dX8_count_86 rfl ?_
    refine wp_geta (k := 3) hC (rfl) (by decide) (rfl) (rfl) (by decide) uX8_count_X8 fX8_count_29 (rfl) dX8_count_87 ?_
    refine wp_getiN (k := 1) (z := 1) hC rfl (rfl) (by decide) (rfl) (rfl) (by decide) uX8_count_X2 fnX8_279 (rfl) dX8_count_90 ?_
    refine wp_top (b := σ 106 1) rfl ?_
    exact hret _ _ _ _ (by omega) rfl (⟨Or.inr (Or.inr (Or.inr (Or.inr (Or.inr (Or.inl (⟨c_1, rfl⟩)))))), rfl⟩) dX8_count_93
  · refine wp_tabIn (tgt := 94) (v := 6) hC dX8_count_1 c_1 (by decide) (by decide) (by decide) rfl (by decide) ?_
    refine wp_aload_n hC dX8_count_94 rfl ?_
    refine wp_geta (k := 3) hC (rfl) (by decide) (rfl) (rfl) (by decide) uX8_count_X8 fX8_count_29 (rfl) dX8_count_95 ?_
    refine wp_getiN (k := 2) (z := 2) hC rfl (rfl) (by decide) (rfl) (rfl) (by decide) uX8_count_X2 fnX8_290 (rfl) dX8_count_98 ?_
    refine wp_top (b := σ 106 2) rfl ?_
    exact hret _ _ _ _ (by omega) rfl (⟨Or.inr (Or.inr (Or.inr (Or.inr (Or.inr (Or.inr (Or.inl (⟨c_1, rfl⟩))))))), rfl⟩) dX8_count_101
  · refine wp_tabIn (tgt := 102) (v := 7) hC dX8_count_1 c_1 (by decide) (by decide) (by decide) rfl (by decide) ?_
    refine wp_aload_n hC dX8_count_102 rfl ?_
    refine wp_callVe (As := []) hC (c_X8_allSupplies hG _ h) gX8_count_X8_allSupplies rfl ⟨rfl, rfl⟩ ⟨by decide, by decide⟩ hyVX8_allSupplies (rfl) (by decide) (rfl) rfl (Nat.le_of_ble_eq_true rfl) dX8_count_103 (fun hx_103 => ?_)
    exact hret _ _ _ _ (hx_103) rfl (⟨Or.inr (Or.inr (Or.inr (Or.inr (Or.inr (Or.inr (Or.inr (Or.inl (⟨c_1, rfl⟩)))))))), rfl⟩) dX8_count_106
  · refine wp_tabIn (tgt := 107) (v := 8) hC dX8_count_1 c_1 (by decide) (by decide) (by decide) rfl (by decide) ?_
    refine wp_aload_n hC dX8_count_107 rfl ?_
    refine wp_iconst hC dX8_count_108 ?_
    refine wp_aload_n hC dX8_count_109 rfl ?_
    refine wp_iconst hC dX8_count_110 ?_
    refine wp_callVe (As := [_]) hC (c_X8_setOf hG _ (by omega) (fun o a b => (h.2.2 o a b).1) h.1) gX8_count_X8_setOf rfl ⟨rfl, rfl⟩ ⟨by decide, by decide⟩ hyVX8_setOf (rfl) (by decide) (rfl) rfl (Nat.le_of_ble_eq_true rfl) dX8_count_111 (fun hx_111 => ?_)
    refine wp_callVe (As := [_, _]) hC (c_X8_amountOf hG σ (B := TX σ 1) h (by omega) (bsI h.1)) gX8_count_X8_amountOf rfl ⟨rfl, rfl⟩ ⟨by decide, by decide⟩ hyVX8_amountOf (rfl) (by decide) (rfl) rfl (Nat.le_of_ble_eq_true rfl) dX8_count_114 (fun hx_114 => ?_)
    exact hret _ _ _ _ (hx_114) rfl (⟨Or.inr (Or.inr (Or.inr (Or.inr (Or.inr (Or.inr (Or.inr (Or.inr (Or.inl (⟨c_1, rfl⟩))))))))), rfl⟩) dX8_count_117
