/-- what is left at the k-th step beside a set, as the class has it -/
def LX (σ : St) (P : Int → Bool) (k : Int) : Int := LFT (σ 109) (σ 83 5) (σ 84) (σ 85) (σ 112) P (k / 169) (k / 13 % 13) (k % 13)
def LAID (σ : St) (P : Int → Bool) : Prop := (∀ k, 0 ≤ k → k < 2197 → σ 92 k = LX σ P k) ∧ ∀ i q, 0 ≤ i → i < 3 → 0 ≤ q → q ≤ 12 → σ 93 (13 * i + q) = sq (σ 109) i q
theorem LX_rng {σ : St} (h : XO σ) (P : Int → Bool) {k : Int} (h0 : 0 ≤ k) (h1 : k < 2197) : -1440 ≤ LX σ P k ∧ LX σ P k ≤ 3564 := by
  have a := sq_rng (su := σ 109) h.2.1.1 (i := 0) (q := k / 169) (by omega) (by omega)
  have b := sq_rng (su := σ 109) h.2.1.1 (i := 1) (q := k / 13 % 13) (by omega) (by omega)
  have c := sq_rng (su := σ 109) h.2.1.1 (i := 2) (q := k % 13) (by omega) (by omega)
  have d := dm_rng (n := σ 83 5) (am := σ 84) (it := σ 85) (la := σ 112) (P := P) (a := k / 169) (b := k / 13 % 13) (c := k % 13) h.1.1 (fun o x y => (h.2.2 o x (by have := h.1; omega)).2.2.1)
  have := h.1
  unfold LX LFT
  omega
theorem LAID_rng {σ : St} {P : Int → Bool} (h : XO σ) (hl : LAID σ P) {k : Int} (h0 : 0 ≤ k) (h1 : k < 2197) : -1440 ≤ σ 92 k ∧ σ 92 k ≤ 3564 := by
  rw [hl.1 k h0 h1]
  exact LX_rng h P h0 h1

theorem hyVX8_allSupplies : yX8_allSupplies.cls = RX8 ∧ yX8_allSupplies.cls ≠ "java/lang/invoke/MethodHandle" ∧ yX8_allSupplies.cls ≠ "java/lang/invoke/VarHandle" ∧ (parseMethodDescriptor yX8_allSupplies.desc).map (fun d => d.parameters.length) = some 0 := by decide +kernel
theorem uX8_allSupplies_X8 : ∀ w ∈ u_ws RX8 TX8 13, w ∈ wsX8_allSupplies := by decide +kernel
theorem fX8_allSupplies_19 : Cond.fieldLink RX8 19 (TX8 1).1 (TX8 1).2.1 (TX8 1).2.2.1 ∈ wsX8_allSupplies := by decide +kernel
theorem uX8_allSupplies_X5 : ∀ w ∈ u_ws RX5 TX5 5, w ∈ wsX8_allSupplies := by decide +kernel
theorem fnX8_80 : Cond.fieldLinkNest RX8 80 (TX5 0).1 (TX5 0).2.1 (TX5 0).2.2.1 "PromiseMind" ∈ tables_1 := List.mem_of_getElem? (i := 85) (by decide +kernel)
set_option maxHeartbeats 4000000 in
set_option maxRecDepth 100000 in
theorem c_X8_allSupplies {l : Launch} {G : Gy} (hG : Inj G) (σ : St) (h : XO σ) : ME l yX8_allSupplies wsX8_allSupplies ({ frames := 0, cells := 0, slots := 0, locals := 0 } : Room) G [.ref (G.2.2 82)] σ (sm (σ 109) 36) σ := by
  refine MI.of hG (by decide +kernel) rfl rfl (Nat.le_of_ble_eq_true rfl) rfl ?_
  intro p e s m args below meth c H0 Q hC hret
  have L16 : ∀ (n : Nat) (k v : Int), ((36 - k).toNat) = n → (0 ≤ k ∧ k ≤ 36) → (v = sm (σ 109) k) → wp p l e ({ frames := 0, cells := 0, slots := 0, locals := 0 } : Room) s m args below meth c (aA G (Array.size H0)) H0 6 Q G σ 16 [(0, .ref (G.2.2 82)), (1, .int (zI (v))), (2, .ref (G.2.2 109)), (3, .int (zI (36))), (4, .int (zI (k)))] [] := by
    intro n16
    induction n16 using Nat.strongRecOn with
    | ind n16 ih =>
      intro k v hm16 h1 h2
      have hv := sm_ub (f := σ 109) (n := k) (c := 99) h1.1 (fun j a b => (h.2.1.1 j a (by omega)).2)
      have hv0 := sm_nn (f := σ 109) (n := k) (fun j a b => (h.2.1.1 j a (by omega)).1)
      refine wp_iload hC dX8_allSupplies_16 rfl ?_
      refine wp_iload_n hC dX8_allSupplies_18 rfl ?_
      refine wp_icmp_ge (tgt := 39) hC dX8_allSupplies_19 (by decide) (by omega) (by omega) (fun c_19 => ?_) (fun c_19 => ?_)
      · refine wp_iload_n hC dX8_allSupplies_39 rfl ?_
        exact hret _ _ _ _ (by omega) rfl (⟨by rw [h2, show k = 36 by omega], rfl⟩) dX8_allSupplies_40
      · refine wp_aload_n hC dX8_allSupplies_22 rfl ?_
        refine wp_iload hC dX8_allSupplies_23 rfl ?_
        refine wp_iald (n := 36) hC (rfl) (Nat.le_of_ble_eq_true rfl) (rfl) (by decide) (by omega) dX8_allSupplies_25 ?_
        refine wp_istore (lv2 := [(0, _), (1, _), (2, _), (3, _), (4, _), (5, _)]) hC dX8_allSupplies_26 rfl (by decide) ?_
        refine wp_iload_n hC dX8_allSupplies_28 rfl ?_
        refine wp_iload hC dX8_allSupplies_29 rfl ?_
        refine wp_iadd hC dX8_allSupplies_31 ?_
        refine wp_istore_n (lv2 := [(0, _), (1, _), (2, _), (3, _), (4, _), (5, _)]) hC dX8_allSupplies_32 rfl (by decide) ?_
        refine wp_iinc (lv2 := [(0, _), (1, _), (2, _), (3, _), (4, _), (5, _)]) hC dX8_allSupplies_33 rfl rfl (by decide) ?_
        refine wp_goto (tgt := 16) hC dX8_allSupplies_36 (by decide) ?_
        refine wp_lv hC [0, 1, 2, 3, 4] rfl ?_
        exact ih _ (by omega) _ _ rfl (by omega) (by rw [sm_s h1.1, ← h2])
  refine wp_iconst hC dX8_allSupplies_0 ?_
  refine wp_istore_n (lv2 := [(0, _), (1, _)]) hC dX8_allSupplies_1 rfl (by decide) ?_
  refine wp_aload_n hC dX8_allSupplies_2 rfl ?_
  refine wp_geta (k := 1) hC (rfl) (by decide) (rfl) (rfl) (by decide) uX8_allSupplies_X8 fX8_allSupplies_19 (rfl) dX8_allSupplies_3 ?_
  refine wp_getaN (k := 0) hC (rfl) (by decide) (rfl) (rfl) (by decide) uX8_allSupplies_X5 fnX8_80 (rfl) dX8_allSupplies_6 ?_
  refine wp_astore_n (lv2 := [(0, _), (1, _), (2, _)]) hC dX8_allSupplies_9 rfl (by decide) ?_
  refine wp_aload_n hC dX8_allSupplies_10 rfl ?_
  refine wp_alen (n := 36) hC (rfl) (rfl) (by decide) dX8_allSupplies_11 ?_
  refine wp_top (b := 36) rfl ?_
  refine wp_istore_n (lv2 := [(0, _), (1, _), (2, _), (3, _)]) hC dX8_allSupplies_12 rfl (by decide) ?_
  refine wp_iconst hC dX8_allSupplies_13 ?_
  refine wp_istore (lv2 := [(0, _), (1, _), (2, _), (3, _), (4, _)]) hC dX8_allSupplies_14 rfl (by decide) ?_
  exact L16 _ _ _ rfl (by omega) rfl

theorem hyVX8_cutOf : yX8_cutOf.cls = RX8 ∧ yX8_cutOf.cls ≠ "java/lang/invoke/MethodHandle" ∧ yX8_cutOf.cls ≠ "java/lang/invoke/VarHandle" ∧ (parseMethodDescriptor yX8_cutOf.desc).map (fun d => d.parameters.length) = some 1 := by decide +kernel
theorem uX8_cutOf_X8 : ∀ w ∈ u_ws RX8 TX8 13, w ∈ wsX8_cutOf := by decide +kernel
theorem fX8_cutOf_19 : Cond.fieldLink RX8 19 (TX8 1).1 (TX8 1).2.1 (TX8 1).2.2.1 ∈ wsX8_cutOf := by decide +kernel
theorem uX8_cutOf_X5 : ∀ w ∈ u_ws RX5 TX5 5, w ∈ wsX8_cutOf := by decide +kernel
theorem fnX8_90 : Cond.fieldLinkNest RX8 90 (TX5 1).1 (TX5 1).2.1 (TX5 1).2.2.1 "PromiseMind" ∈ tables_1 := List.mem_of_getElem? (i := 88) (by decide +kernel)
set_option maxHeartbeats 4000000 in
set_option maxRecDepth 100000 in
theorem c_X8_cutOf {l : Launch} {G : Gy} (hG : Inj G) (σ : St) {g : Int} (h : XO σ) (hg : 0 ≤ g ∧ g ≤ 3) : ME l yX8_cutOf wsX8_cutOf ({ frames := 1, cells := 0, slots := 0, locals := 25 } : Room) G [.ref (G.2.2 82), .int (zI (g))] σ (σ 110 g * sm (σ 109) 36 / 100) σ := by
  refine MI.of hG (by decide +kernel) rfl rfl (Nat.le_of_ble_eq_true rfl) rfl ?_
  intro p e s m args below meth c H0 Q hC hret
  have hv := sm_ub (f := σ 109) (n := 36) (c := 99) (by decide) (fun j a b => (h.2.1.1 j a (by omega)).2)
  have hv0 := sm_nn (f := σ 109) (n := 36) (fun j a b => (h.2.1.1 j a (by omega)).1)
  have hs := h.2.1.2 g (by omega) (by omega)
  have hm0 : 0 ≤ σ 110 g * sm (σ 109) 36 := Int.mul_nonneg hs.1 hv0
  have hm1 : σ 110 g * sm (σ 109) 36 ≤ 100 * 3564 := Int.mul_le_mul hs.2 (by omega) hv0 (by decide)
  refine wp_aload_n hC dX8_cutOf_0 rfl ?_
  refine wp_callVe (As := []) hC (c_X8_allSupplies hG _ h) gX8_cutOf_X8_allSupplies rfl ⟨rfl, rfl⟩ ⟨by decide, by decide⟩ hyVX8_allSupplies (rfl) (by decide) (rfl) rfl (Nat.le_of_ble_eq_true rfl) dX8_cutOf_1 (fun hx_1 => ?_)
  refine wp_aload_n hC dX8_cutOf_4 rfl ?_
  refine wp_geta (k := 1) hC (rfl) (by decide) (rfl) (rfl) (by decide) uX8_cutOf_X8 fX8_cutOf_19 (rfl) dX8_cutOf_5 ?_
  refine wp_getaN (k := 1) hC (rfl) (by decide) (rfl) (rfl) (by decide) uX8_cutOf_X5 fnX8_90 (rfl) dX8_cutOf_8 ?_
  refine wp_iload_n hC dX8_cutOf_11 rfl ?_
  refine wp_iald (n := 4) hC (rfl) (Nat.le_of_ble_eq_true rfl) (rfl) (by decide) (by omega) dX8_cutOf_12 ?_
  refine wp_imul hC dX8_cutOf_13 ?_
  refine wp_top (b := σ 110 g * sm (σ 109) 36) (Int.mul_comm _ _) ?_
  refine wp_bipush hC dX8_cutOf_14 rfl ?_
  refine wp_idiv hC dX8_cutOf_16 (by omega) (by omega) ?_
  refine wp_top (b := σ 110 g * sm (σ 109) 36 / 100) (Int.tdiv_eq_ediv_of_nonneg hm0) ?_
  exact hret _ _ _ _ (by omega) rfl (⟨rfl, rfl⟩) dX8_cutOf_17

theorem hyVX8_roomOf : yX8_roomOf.cls = RX8 ∧ yX8_roomOf.cls ≠ "java/lang/invoke/MethodHandle" ∧ yX8_roomOf.cls ≠ "java/lang/invoke/VarHandle" ∧ (parseMethodDescriptor yX8_roomOf.desc).map (fun d => d.parameters.length) = some 2 := by decide +kernel
set_option maxHeartbeats 4000000 in
set_option maxRecDepth 100000 in
theorem c_X8_roomOf {l : Launch} {G : Gy} (hG : Inj G) (σ : St) {g B : Int} (h : XO σ) (hg : 0 ≤ g ∧ g ≤ 3) (hB : 0 ≤ B ∧ B ≤ 2147483647) : ME l yX8_roomOf wsX8_roomOf ({ frames := 2, cells := 0, slots := 0, locals := 46 } : Room) G [.ref (G.2.2 82), .int (zI (g)), .int (zI (B))] σ (σ 110 g * sm (σ 109) 36 / 100 - amS (σ 83 5) (σ 84) (σ 87) (tb B) g) σ := by
  refine MI.of hG (by decide +kernel) rfl rfl (Nat.le_of_ble_eq_true rfl) rfl ?_
  intro p e s m args below meth c H0 Q hC hret
  have hv := sm_ub (f := σ 109) (n := 36) (c := 99) (by decide) (fun j a b => (h.2.1.1 j a (by omega)).2)
  have hv0 := sm_nn (f := σ 109) (n := 36) (fun j a b => (h.2.1.1 j a (by omega)).1)
  have hs := h.2.1.2 g (by omega) (by omega)
  have hm0 : 0 ≤ σ 110 g * sm (σ 109) 36 := Int.mul_nonneg hs.1 hv0
  have hm1 : σ 110 g * sm (σ 109) 36 ≤ 100 * 3564 := Int.mul_le_mul hs.2 (by omega) hv0 (by decide)
  have hn := h.1
  have ha := amS_rng (n := σ 83 5) (am := σ 84) (gr := σ 87) (P := tb B) (g := g) hn.1 (fun o a b => (h.2.2 o a (by omega)).2.2.1)
  refine wp_aload_n hC dX8_roomOf_0 rfl ?_
  refine wp_iload_n hC dX8_roomOf_1 rfl ?_
  refine wp_callVe (As := [_]) hC (c_X8_cutOf hG _ h (by omega)) gX8_roomOf_X8_cutOf rfl ⟨rfl, rfl⟩ ⟨by decide, by decide⟩ hyVX8_cutOf (rfl) (by decide) (rfl) rfl (Nat.le_of_ble_eq_true rfl) dX8_roomOf_2 (fun hx_2 => ?_)
  refine wp_aload_n hC dX8_roomOf_5 rfl ?_
  refine wp_iload_n hC dX8_roomOf_6 rfl ?_
  refine wp_iload_n hC dX8_roomOf_7 rfl ?_
  refine wp_callVe (As := [_, _]) hC (c_X8_amountOf hG _ h (by omega) (by omega)) gX8_roomOf_X8_amountOf rfl ⟨rfl, rfl⟩ ⟨by decide, by decide⟩ hyVX8_amountOf (rfl) (by decide) (rfl) rfl (Nat.le_of_ble_eq_true rfl) dX8_roomOf_8 (fun hx_8 => ?_)
  refine wp_isub hC dX8_roomOf_11 ?_
  exact hret _ _ _ _ (by omega) rfl (⟨rfl, rfl⟩) dX8_roomOf_12

theorem hyVX8_isAhead : yX8_isAhead.cls = RX8 ∧ yX8_isAhead.cls ≠ "java/lang/invoke/MethodHandle" ∧ yX8_isAhead.cls ≠ "java/lang/invoke/VarHandle" ∧ (parseMethodDescriptor yX8_isAhead.desc).map (fun d => d.parameters.length) = some 2 := by decide +kernel
theorem uX8_isAhead_X8 : ∀ w ∈ u_ws RX8 TX8 13, w ∈ wsX8_isAhead := by decide +kernel
theorem fX8_isAhead_12 : Cond.fieldLink RX8 12 (TX8 0).1 (TX8 0).2.1 (TX8 0).2.2.1 ∈ wsX8_isAhead := by decide +kernel
theorem uX8_isAhead_X0 : ∀ w ∈ u_ws RX0 TX0 6, w ∈ wsX8_isAhead := by decide +kernel
theorem fnX8_145 : Cond.fieldLinkNest RX8 145 (TX0 4).1 (TX0 4).2.1 (TX0 4).2.2.1 "PromiseMind" ∈ tables_1 := List.mem_of_getElem? (i := 56) (by decide +kernel)
set_option maxHeartbeats 4000000 in
set_option maxRecDepth 100000 in
theorem c_X8_isAhead {l : Launch} {G : Gy} (hG : Inj G) (σ : St) {a b : Int} (h : XO σ) (ha : 0 ≤ a ∧ a < σ 83 5) (hb : 0 ≤ b ∧ b < σ 83 5) : MB l yX8_isAhead wsX8_isAhead ({ frames := 0, cells := 0, slots := 0, locals := 0 } : Room) G [.ref (G.2.2 82), .int (zI (a)), .int (zI (b))] σ (kap (σ 88) a < kap (σ 88) b) σ := by
  refine MI.of hG (by decide +kernel) rfl rfl (Nat.le_of_ble_eq_true rfl) rfl ?_
  intro p e s m args below meth c H0 Q hC hret
  have hn := h.1
  have hra := (h.2.2 a ha.1 ha.2).2.2.2.2.2.2
  have hrb := (h.2.2 b hb.1 hb.2).2.2.2.2.2.2
  refine wp_aload_n hC dX8_isAhead_0 rfl ?_
  refine wp_geta (k := 0) hC (rfl) (by decide) (rfl) (rfl) (by decide) uX8_isAhead_X8 fX8_isAhead_12 (rfl) dX8_isAhead_1 ?_
  refine wp_getaN (k := 4) hC (rfl) (by decide) (rfl) (rfl) (by decide) uX8_isAhead_X0 fnX8_145 (rfl) dX8_isAhead_4 ?_
  refine wp_iload_n hC dX8_isAhead_7 rfl ?_
  skip
  refine wp_iald (n := 24) hC (rfl) (Nat.le_of_ble_eq_true rfl) (rfl) (by decide) (by omega) dX8_isAhead_8 ?_
  refine wp_top (b := σ 88 a) rfl ?_
  refine wp_aload_n hC dX8_isAhead_9 rfl ?_
  refine wp_geta (k := 0) hC (rfl) (by decide) (rfl) (rfl) (by decide) uX8_isAhead_X8 fX8_isAhead_12 (rfl) dX8_isAhead_10 ?_
  refine wp_getaN (k := 4) hC (rfl) (by decide) (rfl) (rfl) (by decide) uX8_isAhead_X0 fnX8_145 (rfl) dX8_isAhead_13 ?_
  refine wp_iload_n hC dX8_isAhead_16 rfl ?_
  refine wp_iald (n := 24) hC (rfl) (Nat.le_of_ble_eq_true rfl) (rfl) (by decide) (by omega) dX8_isAhead_17 ?_
  refine wp_top (b := σ 88 b) rfl ?_
  refine wp_isub hC dX8_isAhead_18 ?_
  refine wp_istore_n (lv2 := [(0, _), (1, _), (2, _), (3, _)]) hC dX8_isAhead_19 rfl (by decide) ?_
  refine wp_iload_n hC dX8_isAhead_20 rfl ?_
  refine wp_if_gt (tgt := 33) hC dX8_isAhead_21 (by decide) (by omega) (fun c_21 => ?_) (fun c_21 => ?_)
  · refine wp_iconst hC dX8_isAhead_33 ?_
    refine wp_goto (tgt := 38) hC dX8_isAhead_34 (by decide) ?_
    exact hret _ _ _ _ (by omega) rfl (⟨bI1 (by unfold kap; omega), rfl⟩) dX8_isAhead_38
  · refine wp_iload_n hC dX8_isAhead_24 rfl ?_
    refine wp_if_ne (tgt := 37) hC dX8_isAhead_25 (by decide) (by omega) (fun c_25 => ?_) (fun c_25 => ?_)
    · refine wp_iconst hC dX8_isAhead_37 ?_
      exact hret _ _ _ _ (by omega) rfl (⟨bI0 (by unfold kap; omega), rfl⟩) dX8_isAhead_38
    · refine wp_iload_n hC dX8_isAhead_28 rfl ?_
      refine wp_iload_n hC dX8_isAhead_29 rfl ?_
      refine wp_icmp_ge (tgt := 37) hC dX8_isAhead_30 (by decide) (by omega) (by omega) (fun c_30 => ?_) (fun c_30 => ?_)
      · refine wp_iconst hC dX8_isAhead_37 ?_
        exact hret _ _ _ _ (by omega) rfl (⟨bI0 (by unfold kap; omega), rfl⟩) dX8_isAhead_38
      · refine wp_iconst hC dX8_isAhead_33 ?_
        refine wp_goto (tgt := 38) hC dX8_isAhead_34 (by decide) ?_
        exact hret _ _ _ _ (by omega) rfl (⟨bI1 (by unfold kap; omega), rfl⟩) dX8_isAhead_38

theorem hyVX8_exchangeLatest : yX8_exchangeLatest.cls = RX8 ∧ yX8_exchangeLatest.cls ≠ "java/lang/invoke/MethodHandle" ∧ yX8_exchangeLatest.cls ≠ "java/lang/invoke/VarHandle" ∧ (parseMethodDescriptor yX8_exchangeLatest.desc).map (fun d => d.parameters.length) = some 2 := by decide +kernel
theorem uX8_exchangeLatest_X8 : ∀ w ∈ u_ws RX8 TX8 13, w ∈ wsX8_exchangeLatest := by decide +kernel
theorem fX8_exchangeLatest_19 : Cond.fieldLink RX8 19 (TX8 1).1 (TX8 1).2.1 (TX8 1).2.2.1 ∈ wsX8_exchangeLatest := by decide +kernel
theorem uX8_exchangeLatest_X5 : ∀ w ∈ u_ws RX5 TX5 5, w ∈ wsX8_exchangeLatest := by decide +kernel
theorem fnX8_127 : Cond.fieldLinkNest RX8 127 (TX5 3).1 (TX5 3).2.1 (TX5 3).2.2.1 "PromiseMind" ∈ tables_1 := List.mem_of_getElem? (i := 94) (by decide +kernel)
set_option maxHeartbeats 4000000 in
set_option maxRecDepth 100000 in
theorem c_X8_exchangeLatest {l : Launch} {G : Gy} (hG : Inj G) (σ : St) {a b : Int} (ha : 0 ≤ a ∧ a < 24) (hb : 0 ≤ b ∧ b < 24) : MU l yX8_exchangeLatest wsX8_exchangeLatest ({ frames := 0, cells := 0, slots := 0, locals := 0 } : Room) G [.ref (G.2.2 82), .int (zI (a)), .int (zI (b))] σ (put (put σ 112 a (σ 112 b)) 112 b (σ 112 a)) := by
  refine MV.of hG (by decide +kernel) rfl rfl (Nat.le_of_ble_eq_true rfl) rfl ?_
  intro p e s m args below meth c H0 Q hC hret
  refine wp_aload_n hC dX8_exchangeLatest_0 rfl ?_
  refine wp_geta (k := 1) hC (rfl) (by decide) (rfl) (rfl) (by decide) uX8_exchangeLatest_X8 fX8_exchangeLatest_19 (rfl) dX8_exchangeLatest_1 ?_
  refine wp_getaN (k := 3) hC (rfl) (by decide) (rfl) (rfl) (by decide) uX8_exchangeLatest_X5 fnX8_127 (rfl) dX8_exchangeLatest_4 ?_
  refine wp_iload_n hC dX8_exchangeLatest_7 rfl ?_
  refine wp_iald (n := 24) hC (rfl) (Nat.le_of_ble_eq_true rfl) (rfl) (by decide) (by omega) dX8_exchangeLatest_8 ?_
  refine wp_istore_n (lv2 := [(0, _), (1, _), (2, _), (3, _)]) hC dX8_exchangeLatest_9 rfl (by decide) ?_
  refine wp_aload_n hC dX8_exchangeLatest_10 rfl ?_
  refine wp_geta (k := 1) hC (rfl) (by decide) (rfl) (rfl) (by decide) uX8_exchangeLatest_X8 fX8_exchangeLatest_19 (rfl) dX8_exchangeLatest_11 ?_
  refine wp_getaN (k := 3) hC (rfl) (by decide) (rfl) (rfl) (by decide) uX8_exchangeLatest_X5 fnX8_127 (rfl) dX8_exchangeLatest_14 ?_
  refine wp_iload_n hC dX8_exchangeLatest_17 rfl ?_
  refine wp_aload_n hC dX8_exchangeLatest_18 rfl ?_
  refine wp_geta (k := 1) hC (rfl) (by decide) (rfl) (rfl) (by decide) uX8_exchangeLatest_X8 fX8_exchangeLatest_19 (rfl) dX8_exchangeLatest_19 ?_
  refine wp_getaN (k := 3) hC (rfl) (by decide) (rfl) (rfl) (by decide) uX8_exchangeLatest_X5 fnX8_127 (rfl) dX8_exchangeLatest_22 ?_
  refine wp_iload_n hC dX8_exchangeLatest_25 rfl ?_
  refine wp_iald (n := 24) hC (rfl) (Nat.le_of_ble_eq_true rfl) (rfl) (by decide) (by omega) dX8_exchangeLatest_26 ?_
  refine wp_iast (n := 24) hC (rfl) (Nat.le_of_ble_eq_true rfl) (rfl) (by decide) (by omega) dX8_exchangeLatest_27 ?_
  refine wp_aload_n hC dX8_exchangeLatest_28 rfl ?_
  refine wp_geta (k := 1) hC (rfl) (by decide) (rfl) (rfl) (by decide) uX8_exchangeLatest_X8 fX8_exchangeLatest_19 (rfl) dX8_exchangeLatest_29 ?_
  refine wp_getaN (k := 3) hC (rfl) (by decide) (rfl) (rfl) (by decide) uX8_exchangeLatest_X5 fnX8_127 (rfl) dX8_exchangeLatest_32 ?_
  refine wp_iload_n hC dX8_exchangeLatest_35 rfl ?_
  refine wp_iload_n hC dX8_exchangeLatest_36 rfl ?_
  refine wp_iast (n := 24) hC (rfl) (Nat.le_of_ble_eq_true rfl) (rfl) (by decide) (by omega) dX8_exchangeLatest_37 ?_
  exact hret _ _ _ (rfl) dX8_exchangeLatest_38

theorem hySX6_numberOf : yX6_numberOf.cls ≠ "java/lang/invoke/MethodHandle" ∧ yX6_numberOf.cls ≠ "java/lang/invoke/VarHandle" ∧ (parseMethodDescriptor yX6_numberOf.desc).map (fun d => d.parameters.length) = some 4 := by decide +kernel
set_option maxHeartbeats 4000000 in
set_option maxRecDepth 100000 in
theorem c_X6_numberOf {l : Launch} {G : Gy} (hG : Inj G) (σ : St) {i a b c1 : Int} (hi : 0 ≤ i ∧ i ≤ 2) (ha : iR a) (hb : iR b) (hc : iR c1) : ME l yX6_numberOf wsX6_numberOf ({ frames := 0, cells := 0, slots := 0, locals := 0 } : Room) G [.int (zI (i)), .int (zI (a)), .int (zI (b)), .int (zI (c1))] σ (if i = 0 then a else if i = 1 then b else c1) σ := by
  refine MI.of hG (by decide +kernel) rfl rfl (Nat.le_of_ble_eq_true rfl) rfl ?_
  intro p e s m args below meth c H0 Q hC hret
  refine wp_iload_n hC dX6_numberOf_0 rfl ?_
  refine wp_if_ne (tgt := 8) hC dX6_numberOf_1 (by decide) (by omega) (fun c_1 => ?_) (fun c_1 => ?_)
  · refine wp_iload_n hC dX6_numberOf_8 rfl ?_
    refine wp_iconst hC dX6_numberOf_9 ?_
    refine wp_icmp_ne (tgt := 17) hC dX6_numberOf_10 (by decide) (by omega) (by omega) (fun c_10 => ?_) (fun c_10 => ?_)
    · refine wp_iload_n hC dX6_numberOf_17 rfl ?_
      exact hret _ _ _ _ (by omega) rfl (⟨by rw [if_neg (by omega), if_neg (by omega)], rfl⟩) dX6_numberOf_18
    · refine wp_iload_n hC dX6_numberOf_13 rfl ?_
      refine wp_goto (tgt := 18) hC dX6_numberOf_14 (by decide) ?_
      exact hret _ _ _ _ (by omega) rfl (⟨by rw [if_neg (by omega), if_pos (by omega)], rfl⟩) dX6_numberOf_18
  · refine wp_iload_n hC dX6_numberOf_4 rfl ?_
    refine wp_goto (tgt := 18) hC dX6_numberOf_5 (by decide) ?_
    exact hret _ _ _ _ (by omega) rfl (⟨(if_pos (by omega)).symm, rfl⟩) dX6_numberOf_18

theorem hyVX6_suppliesTo : yX6_suppliesTo.cls = RX6 ∧ yX6_suppliesTo.cls ≠ "java/lang/invoke/MethodHandle" ∧ yX6_suppliesTo.cls ≠ "java/lang/invoke/VarHandle" ∧ (parseMethodDescriptor yX6_suppliesTo.desc).map (fun d => d.parameters.length) = some 3 := by decide +kernel
theorem uX6_suppliesTo_X6 : ∀ w ∈ u_ws RX6 TX6 2, w ∈ wsX6_suppliesTo := by decide +kernel
theorem fX6_suppliesTo_15 : Cond.fieldLink RX6 15 (TX6 1).1 (TX6 1).2.1 (TX6 1).2.2.1 ∈ wsX6_suppliesTo := by decide +kernel
set_option maxHeartbeats 4000000 in
set_option maxRecDepth 100000 in
theorem c_X6_suppliesTo {l : Launch} {G : Gy} (hG : Inj G) (σ : St) {a b c1 : Int} (h : XO σ) (hu : ∀ i q, 0 ≤ i → i < 3 → 0 ≤ q → q ≤ 12 → σ 93 (13 * i + q) = sq (σ 109) i q) (ha : 0 ≤ a ∧ a ≤ 12) (hb : 0 ≤ b ∧ b ≤ 12) (hc : 0 ≤ c1 ∧ c1 ≤ 12) : ME l yX6_suppliesTo wsX6_suppliesTo ({ frames := 0, cells := 0, slots := 0, locals := 0 } : Room) G [.ref (G.2.2 91), .int (zI (a)), .int (zI (b)), .int (zI (c1))] σ (sq (σ 109) 0 a + sq (σ 109) 1 b + sq (σ 109) 2 c1) σ := by
  refine MI.of hG (by decide +kernel) rfl rfl (Nat.le_of_ble_eq_true rfl) rfl ?_
  intro p e s m args below meth c H0 Q hC hret
  have h0 := sq_rng (su := σ 109) h.2.1.1 (i := 0) (q := a) (by omega) ha
  have h1 := sq_rng (su := σ 109) h.2.1.1 (i := 1) (q := b) (by omega) hb
  have h2 := sq_rng (su := σ 109) h.2.1.1 (i := 2) (q := c1) (by omega) hc
  have u0 := hu 0 a (by decide) (by decide) ha.1 ha.2
  have u1 := hu 1 b (by decide) (by decide) hb.1 hb.2
  have u2 := hu 2 c1 (by decide) (by decide) hc.1 hc.2
  refine wp_aload_n hC dX6_suppliesTo_0 rfl ?_
  refine wp_geta (k := 1) hC (rfl) (by decide) (rfl) (rfl) (by decide) uX6_suppliesTo_X6 fX6_suppliesTo_15 (rfl) dX6_suppliesTo_1 ?_
  refine wp_iload_n hC dX6_suppliesTo_4 rfl ?_
  refine wp_iald (n := 39) hC (rfl) (Nat.le_of_ble_eq_true rfl) (rfl) (by decide) (by omega) dX6_suppliesTo_5 ?_
  refine wp_top (b := sq (σ 109) 0 a) (by rw [← u0]; show σ 93 a = σ 93 (0 + a); rw [Int.zero_add]) ?_
  refine wp_aload_n hC dX6_suppliesTo_6 rfl ?_
  refine wp_geta (k := 1) hC (rfl) (by decide) (rfl) (rfl) (by decide) uX6_suppliesTo_X6 fX6_suppliesTo_15 (rfl) dX6_suppliesTo_7 ?_
  refine wp_bipush hC dX6_suppliesTo_10 rfl ?_
  refine wp_iload_n hC dX6_suppliesTo_12 rfl ?_
  refine wp_iadd hC dX6_suppliesTo_13 ?_
  refine wp_iald (n := 39) hC (rfl) (Nat.le_of_ble_eq_true rfl) (rfl) (by decide) (by omega) dX6_suppliesTo_14 ?_
  refine wp_top (b := sq (σ 109) 1 b) (by rw [← u1]; rfl) ?_
  refine wp_iadd hC dX6_suppliesTo_15 ?_
  refine wp_aload_n hC dX6_suppliesTo_16 rfl ?_
  refine wp_geta (k := 1) hC (rfl) (by decide) (rfl) (rfl) (by decide) uX6_suppliesTo_X6 fX6_suppliesTo_15 (rfl) dX6_suppliesTo_17 ?_
  refine wp_bipush hC dX6_suppliesTo_20 rfl ?_
  refine wp_iload_n hC dX6_suppliesTo_22 rfl ?_
  refine wp_iadd hC dX6_suppliesTo_23 ?_
  refine wp_iald (n := 39) hC (rfl) (Nat.le_of_ble_eq_true rfl) (rfl) (by decide) (by omega) dX6_suppliesTo_24 ?_
  refine wp_top (b := sq (σ 109) 2 c1) (by rw [← u2]; rfl) ?_
  refine wp_iadd hC dX6_suppliesTo_25 ?_
  exact hret _ _ _ _ (by omega) rfl (⟨rfl, rfl⟩) dX6_suppliesTo_26

theorem hyVX6_leftIn : yX6_leftIn.cls = RX6 ∧ yX6_leftIn.cls ≠ "java/lang/invoke/MethodHandle" ∧ yX6_leftIn.cls ≠ "java/lang/invoke/VarHandle" ∧ (parseMethodDescriptor yX6_leftIn.desc).map (fun d => d.parameters.length) = some 1 := by decide +kernel
theorem uX6_leftIn_X6 : ∀ w ∈ u_ws RX6 TX6 2, w ∈ wsX6_leftIn := by decide +kernel
theorem fX6_leftIn_9 : Cond.fieldLink RX6 9 (TX6 0).1 (TX6 0).2.1 (TX6 0).2.2.1 ∈ wsX6_leftIn := by decide +kernel
set_option maxHeartbeats 4000000 in
set_option maxRecDepth 100000 in
theorem c_X6_leftIn {l : Launch} {G : Gy} (hG : Inj G) (σ : St) {k : Int} (hk : 0 ≤ k ∧ k < 2197) (hx : iR (σ 92 k)) : ME l yX6_leftIn wsX6_leftIn ({ frames := 0, cells := 0, slots := 0, locals := 0 } : Room) G [.ref (G.2.2 91), .int (zI (k))] σ (σ 92 k) σ := by
  refine MI.of hG (by decide +kernel) rfl rfl (Nat.le_of_ble_eq_true rfl) rfl ?_
  intro p e s m args below meth c H0 Q hC hret
  refine wp_iload_n hC dX6_leftIn_0 rfl ?_
  refine wp_if_lt (tgt := 20) hC dX6_leftIn_1 (by decide) (by omega) (fun c_1 => ?_) (fun c_1 => ?_)
  · exfalso; omega
  · refine wp_iload_n hC dX6_leftIn_4 rfl ?_
    refine wp_sipush hC dX6_leftIn_5 rfl ?_
    refine wp_icmp_ge (tgt := 20) hC dX6_leftIn_8 (by decide) (by omega) (by omega) (fun c_8 => ?_) (fun c_8 => ?_)
    · exfalso; omega
    · refine wp_aload_n hC dX6_leftIn_11 rfl ?_
      refine wp_geta (k := 0) hC (rfl) (by decide) (rfl) (rfl) (by decide) uX6_leftIn_X6 fX6_leftIn_9 (rfl) dX6_leftIn_12 ?_
      refine wp_iload_n hC dX6_leftIn_15 rfl ?_
      refine wp_iald (n := 2197) hC (rfl) (Nat.le_of_ble_eq_true rfl) (rfl) (by decide) (by omega) dX6_leftIn_16 ?_
      refine wp_top (b := σ 92 k) rfl ?_
      refine wp_goto (tgt := 21) hC dX6_leftIn_17 (by decide) ?_
      exact hret _ _ _ _ (by omega) rfl (⟨rfl, rfl⟩) dX6_leftIn_21

theorem hyVX6_tightest : yX6_tightest.cls = RX6 ∧ yX6_tightest.cls ≠ "java/lang/invoke/MethodHandle" ∧ yX6_tightest.cls ≠ "java/lang/invoke/VarHandle" ∧ (parseMethodDescriptor yX6_tightest.desc).map (fun d => d.parameters.length) = some 0 := by decide +kernel
theorem uX6_tightest_X6 : ∀ w ∈ u_ws RX6 TX6 2, w ∈ wsX6_tightest := by decide +kernel
theorem fX6_tightest_9 : Cond.fieldLink RX6 9 (TX6 0).1 (TX6 0).2.1 (TX6 0).2.2.1 ∈ wsX6_tightest := by decide +kernel
set_option maxHeartbeats 4000000 in
set_option maxRecDepth 100000 in
theorem c_X6_tightest {l : Launch} {G : Gy} (hG : Inj G) (σ : St) (hx : ∀ k, 0 ≤ k → k < 2197 → iR (σ 92 k)) : MP l yX6_tightest wsX6_tightest ({ frames := 0, cells := 0, slots := 0, locals := 0 } : Room) G [.ref (G.2.2 91)] σ (fst (σ 92) 2197) := by
  refine MI.of hG (by decide +kernel) rfl rfl (Nat.le_of_ble_eq_true rfl) rfl ?_
  intro p e s m args below meth c H0 Q hC hret
  have L4 : ∀ (n : Nat) (j k : Int), ((2197 - k).toNat) = n → (1 ≤ k ∧ k ≤ 2197) → (fst (σ 92) k j) → wp p l e ({ frames := 0, cells := 0, slots := 0, locals := 0 } : Room) s m args below meth c (aA G (Array.size H0)) H0 3 Q G σ 4 [(0, .ref (G.2.2 91)), (1, .int (zI (j))), (2, .int (zI (k)))] [] := by
    intro n4
    induction n4 using Nat.strongRecOn with
    | ind n4 ih =>
      intro j k hm4 h1 hf
      have hj1 := hf.1
      have hj2 := hf.2.1
      have hxj := hx j hj1 (by omega)
      have hxk := fun z : k < 2197 => hx k (by omega) z
      refine wp_iload_n hC dX6_tightest_4 rfl ?_
      refine wp_sipush hC dX6_tightest_5 rfl ?_
      refine wp_icmp_ge (tgt := 34) hC dX6_tightest_8 (by decide) (by omega) (by omega) (fun c_8 => ?_) (fun c_8 => ?_)
      · refine wp_iload_n hC dX6_tightest_34 rfl ?_
        exact hret _ _ _ _ (by omega) rfl (⟨by rw [show k = 2197 by omega] at hf; exact hf, rfl⟩) dX6_tightest_35
      · refine wp_aload_n hC dX6_tightest_11 rfl ?_
        refine wp_geta (k := 0) hC (rfl) (by decide) (rfl) (rfl) (by decide) uX6_tightest_X6 fX6_tightest_9 (rfl) dX6_tightest_12 ?_
        refine wp_iload_n hC dX6_tightest_15 rfl ?_
        refine wp_iald (n := 2197) hC (rfl) (Nat.le_of_ble_eq_true rfl) (rfl) (by decide) (by omega) dX6_tightest_16 ?_
        refine wp_top (b := σ 92 k) rfl ?_
        refine wp_aload_n hC dX6_tightest_17 rfl ?_
        refine wp_geta (k := 0) hC (rfl) (by decide) (rfl) (rfl) (by decide) uX6_tightest_X6 fX6_tightest_9 (rfl) dX6_tightest_18 ?_
        refine wp_iload_n hC dX6_tightest_21 rfl ?_
        refine wp_iald (n := 2197) hC (rfl) (Nat.le_of_ble_eq_true rfl) (rfl) (by decide) (by omega) dX6_tightest_22 ?_
        refine wp_top (b := σ 92 j) rfl ?_
        refine wp_icmp_ge (tgt := 28) hC dX6_tightest_23 (by decide) (by omega) (by omega) (fun c_23 => ?_) (fun c_23 => ?_)
        · refine wp_iinc (lv2 := [(0, _), (1, _), (2, _)]) hC dX6_tightest_28 rfl rfl (by decide) ?_
          refine wp_goto (tgt := 4) hC dX6_tightest_31 (by decide) ?_
          exact ih _ (by omega) _ _ rfl (by omega) ⟨hj1, by omega, fun q a b => by
            rcases Int.lt_or_le q k with z | z
            · exact hf.2.2.1 q a z
            · rw [show q = k by omega]; omega, hf.2.2.2⟩
        · refine wp_iload_n hC dX6_tightest_26 rfl ?_
          refine wp_istore_n (lv2 := [(0, _), (1, _), (2, _)]) hC dX6_tightest_27 rfl (by decide) ?_
          refine wp_iinc (lv2 := [(0, _), (1, _), (2, _)]) hC dX6_tightest_28 rfl rfl (by decide) ?_
          refine wp_goto (tgt := 4) hC dX6_tightest_31 (by decide) ?_
          exact ih _ (by omega) _ _ rfl (by omega) ⟨by omega, by omega, fun q a b => by
            rcases Int.lt_or_le q k with z | z
            · have := hf.2.2.1 q a z; omega
            · rw [show q = k by omega]; exact Int.le_refl _, fun q a b => by have := hf.2.2.1 q a b; omega⟩
  refine wp_iconst hC dX6_tightest_0 ?_
  refine wp_istore_n (lv2 := [(0, _), (1, _)]) hC dX6_tightest_1 rfl (by decide) ?_
  refine wp_iconst hC dX6_tightest_2 ?_
  refine wp_istore_n (lv2 := [(0, _), (1, _), (2, _)]) hC dX6_tightest_3 rfl (by decide) ?_
  exact L4 _ 0 1 rfl (by omega) ⟨by omega, by omega, fun q a b => by rw [show q = 0 by omega]; exact Int.le_refl _, fun q a b => by omega⟩

theorem hySX6_corner : yX6_corner.cls ≠ "java/lang/invoke/MethodHandle" ∧ yX6_corner.cls ≠ "java/lang/invoke/VarHandle" ∧ (parseMethodDescriptor yX6_corner.desc).map (fun d => d.parameters.length) = some 2 := by decide +kernel
theorem mnX6_56 : Cond.methodLinkNest RX6 56 yX8_startOf "PromiseMind" ∈ tables_1 := List.mem_of_getElem? (i := 416) (by decide +kernel)
set_option maxHeartbeats 4000000 in
set_option maxRecDepth 100000 in
theorem c_X6_corner {l : Launch} {G : Gy} (hG : Inj G) (σ : St) {it la : Int} (hit : 0 ≤ it ∧ it ≤ 7) (hla : 0 ≤ la ∧ la ≤ 11) : ME l yX6_corner wsX6_corner ({ frames := 1, cells := 0, slots := 0, locals := 22 } : Room) G [.int (zI (it)), .int (zI (la))] σ (169 * (if tb it 0 = true then la + 1 else 0) + 13 * (if tb it 1 = true then la + 1 else 0) + (if tb it 2 = true then la + 1 else 0)) σ := by
  refine MI.of hG (by decide +kernel) rfl rfl (Nat.le_of_ble_eq_true rfl) rfl ?_
  intro p e s m args below meth c H0 Q hC hret
  have hr : ∀ i, 0 ≤ (if tb it i = true then la + 1 else 0) ∧ (if tb it i = true then la + 1 else 0) ≤ 12 := fun i => by split <;> omega
  have r0 := hr 0
  have r1 := hr 1
  have r2 := hr 2
  refine wp_iload_n hC dX6_corner_0 rfl ?_
  refine wp_iconst hC dX6_corner_1 ?_
  refine wp_iload_n hC dX6_corner_2 rfl ?_
  refine wp_callNe (As := [_, _, _]) hC (c_X8_startOf hG _ (by omega) (by omega) (by omega)) gX6_corner_X8_startOf_n56 rfl ⟨rfl, rfl⟩ ⟨by decide, by decide⟩ hySX8_startOf mnX6_56 (by decide +kernel) (by decide +kernel) rfl (Nat.le_of_ble_eq_true rfl) dX6_corner_3 (fun hx_3 => ?_)
  refine wp_sipush hC dX6_corner_6 rfl ?_
  refine wp_imul hC dX6_corner_9 ?_
  refine wp_iload_n hC dX6_corner_10 rfl ?_
  refine wp_iconst hC dX6_corner_11 ?_
  refine wp_iload_n hC dX6_corner_12 rfl ?_
  refine wp_callNe (As := [_, _, _]) hC (c_X8_startOf hG _ (by omega) (by omega) (by omega)) gX6_corner_X8_startOf_n56 rfl ⟨rfl, rfl⟩ ⟨by decide, by decide⟩ hySX8_startOf mnX6_56 (by decide +kernel) (by decide +kernel) rfl (Nat.le_of_ble_eq_true rfl) dX6_corner_13 (fun hx_13 => ?_)
  refine wp_bipush hC dX6_corner_16 rfl ?_
  refine wp_imul hC dX6_corner_18 ?_
  refine wp_iadd hC dX6_corner_19 ?_
  refine wp_iload_n hC dX6_corner_20 rfl ?_
  refine wp_iconst hC dX6_corner_21 ?_
  refine wp_iload_n hC dX6_corner_22 rfl ?_
  refine wp_callNe (As := [_, _, _]) hC (c_X8_startOf hG _ (by omega) (by omega) (by omega)) gX6_corner_X8_startOf_n56 rfl ⟨rfl, rfl⟩ ⟨by decide, by decide⟩ hySX8_startOf mnX6_56 (by decide +kernel) (by decide +kernel) rfl (Nat.le_of_ble_eq_true rfl) dX6_corner_23 (fun hx_23 => ?_)
  refine wp_iadd hC dX6_corner_26 ?_
  exact hret _ _ _ _ (by omega) rfl (⟨by rw [Int.mul_comm _ 169, Int.mul_comm _ 13], rfl⟩) dX6_corner_27
