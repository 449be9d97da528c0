/-- a kept row laid back: numbers, and what n orders are -/
def LB (σ : St) (i : Nat) (n : Int) : St := fun a b => if a = 1 ∧ ((0 ≤ b ∧ b < 40) ∨ (40 ≤ b ∧ b < 40 + n) ∨ (64 ≤ b ∧ b < 64 + n)) then σ i b else σ a b
theorem LB_0 {σ : St} {i : Nat} : cpy σ i 1 40 = LB σ i 0 := by
  funext a b
  unfold cpy LB
  by_cases h : a = 1 ∧ 0 ≤ b ∧ b < 40
  · rw [if_pos h, if_pos ⟨h.1, Or.inl h.2⟩]
  · rw [if_neg h, if_neg (by omega)]
theorem LB_i {σ : St} {i : Nat} {n b : Int} (h : i ≠ 1) : LB σ i n i b = σ i b := if_neg (fun q => h q.1)
theorem LB_s {σ : St} {i : Nat} {k : Int} (h1 : i ≠ 1) (h : 0 ≤ k) : put (put (LB σ i k) 1 (40 + k) (LB σ i k i (40 + k))) 1 (64 + k) (put (LB σ i k) 1 (40 + k) (LB σ i k i (40 + k)) i (64 + k)) = LB σ i (k + 1) := by
  rw [put_i h1, LB_i h1, LB_i h1]
  funext a b
  unfold put LB
  by_cases q : a = 1
  · subst q
    by_cases q1 : b = 64 + k
    · rw [if_pos ⟨rfl, q1⟩, if_pos ⟨rfl, by omega⟩, q1]
    · rw [if_neg (fun z => q1 z.2)]
      by_cases q2 : b = 40 + k
      · rw [if_pos ⟨rfl, q2⟩, if_pos ⟨rfl, by omega⟩, q2]
      · rw [if_neg (fun z => q2 z.2)]
        by_cases q3 : (0 ≤ b ∧ b < 40) ∨ (40 ≤ b ∧ b < 40 + k) ∨ (64 ≤ b ∧ b < 64 + k)
        · rw [if_pos ⟨rfl, q3⟩, if_pos ⟨rfl, by omega⟩]
        · rw [if_neg (fun z => q3 z.2), if_neg (by omega)]
  · rw [if_neg (fun z => q z.1), if_neg (fun z => q z.1), if_neg (fun z => q z.1), if_neg (fun z => q z.1)]

theorem hyVX9_laysBack : yX9_laysBack.cls = RX9 ∧ yX9_laysBack.cls ≠ "java/lang/invoke/MethodHandle" ∧ yX9_laysBack.cls ≠ "java/lang/invoke/VarHandle" ∧ (parseMethodDescriptor yX9_laysBack.desc).map (fun d => d.parameters.length) = some 2 := by decide +kernel
theorem uX9_laysBack_X9 : ∀ w ∈ u_ws RX9 TX9 35, w ∈ wsX9_laysBack := by decide +kernel
theorem fX9_laysBack_9 : Cond.fieldLink RX9 9 (TX9 0).1 (TX9 0).2.1 (TX9 0).2.2.1 ∈ wsX9_laysBack := by decide +kernel
set_option maxHeartbeats 4000000 in
set_option maxRecDepth 100000 in
theorem c_X9_laysBack {l : Launch} {G : Gy} (hG : Inj G) (σ : St) {i : Nat} {n1 : Int} (hi : i < NID) (ki : kd i = 1) (li : ln i = 88) (i1 : i ≠ 1) (hn : -1 ≤ n1 ∧ n1 ≤ 24) : MU l yX9_laysBack wsX9_laysBack ({ frames := 0, cells := 0, slots := 0, locals := 0 } : Room) G [.ref (G.2.2 0), .ref (G.2.2 i), .int (zI (n1))] σ (LB σ i (max 0 n1)) := by
  refine MV.of hG (by decide +kernel) rfl rfl (Nat.le_of_ble_eq_true rfl) rfl ?_
  intro p e s m args below meth c H0 Q hC hret
  have L25 : ∀ (n : Nat) (k : Int), ((24 - k).toNat) = n → (0 ≤ k ∧ k ≤ max 0 n1) → wp p l e ({ frames := 0, cells := 0, slots := 0, locals := 0 } : Room) s m args below meth c (aA G (Array.size H0)) H0 4 Q G (LB σ i k) 25 [(0, .ref (G.2.2 0)), (1, .ref (G.2.2 i)), (2, .int (zI (n1))), (3, .int (zI (k)))] [] := by
    intro n25
    induction n25 using Nat.strongRecOn with
    | ind n25 ih =>
      intro k hm25 h1
      refine wp_iload_n hC dX9_laysBack_25 rfl ?_
      refine wp_iload_n hC dX9_laysBack_26 rfl ?_
      refine wp_icmp_ge (tgt := 66) hC dX9_laysBack_27 (by decide) (by omega) (by omega) (fun c_27 => ?_) (fun c_27 => ?_)
      · exact hret _ _ _ (by rw [show k = max 0 n1 by omega]) dX9_laysBack_66
      · refine wp_aload_n hC dX9_laysBack_30 rfl ?_
        refine wp_geta (k := 0) hC (rfl) (by decide) (rfl) (rfl) (by decide) uX9_laysBack_X9 fX9_laysBack_9 (rfl) dX9_laysBack_31 ?_
        refine wp_bipush hC dX9_laysBack_34 rfl ?_
        refine wp_iload_n hC dX9_laysBack_36 rfl ?_
        refine wp_iadd hC dX9_laysBack_37 ?_
        refine wp_aload_n hC dX9_laysBack_38 rfl ?_
        refine wp_bipush hC dX9_laysBack_39 rfl ?_
        refine wp_iload_n hC dX9_laysBack_41 rfl ?_
        refine wp_iadd hC dX9_laysBack_42 ?_
        refine wp_iald hC (li) (Nat.le_of_ble_eq_true rfl) (ki) (hi) (by omega) dX9_laysBack_43 ?_
        refine wp_iast (n := 88) hC (rfl) (Nat.le_of_ble_eq_true rfl) (rfl) (by decide) (by omega) dX9_laysBack_44 ?_
        refine wp_aload_n hC dX9_laysBack_45 rfl ?_
        refine wp_geta (k := 0) hC (rfl) (by decide) (rfl) (rfl) (by decide) uX9_laysBack_X9 fX9_laysBack_9 (rfl) dX9_laysBack_46 ?_
        refine wp_bipush hC dX9_laysBack_49 rfl ?_
        refine wp_iload_n hC dX9_laysBack_51 rfl ?_
        refine wp_iadd hC dX9_laysBack_52 ?_
        refine wp_aload_n hC dX9_laysBack_53 rfl ?_
        refine wp_bipush hC dX9_laysBack_54 rfl ?_
        refine wp_iload_n hC dX9_laysBack_56 rfl ?_
        refine wp_iadd hC dX9_laysBack_57 ?_
        refine wp_iald hC (li) (Nat.le_of_ble_eq_true rfl) (ki) (hi) (by omega) dX9_laysBack_58 ?_
        refine wp_iast (n := 88) hC (rfl) (Nat.le_of_ble_eq_true rfl) (rfl) (by decide) (by omega) dX9_laysBack_59 ?_
        refine wp_iinc (lv2 := [(0, _), (1, _), (2, _), (3, _)]) hC dX9_laysBack_60 rfl rfl (by decide) ?_
        refine wp_goto (tgt := 25) hC dX9_laysBack_63 (by decide) ?_
        rw [LB_s i1 h1.1]
        exact ih _ (by omega) _ rfl (by omega)
  have L2 : ∀ (n : Nat) (k : Int), ((40 - k).toNat) = n → (0 ≤ k ∧ k ≤ 40) → wp p l e ({ frames := 0, cells := 0, slots := 0, locals := 0 } : Room) s m args below meth c (aA G (Array.size H0)) H0 4 Q G (cpy σ i 1 k) 2 [(0, .ref (G.2.2 0)), (1, .ref (G.2.2 i)), (2, .int (zI (n1))), (3, .int (zI (k)))] [] := by
    intro n2
    induction n2 using Nat.strongRecOn with
    | ind n2 ih =>
      intro k hm2 h1
      refine wp_iload_n hC dX9_laysBack_2 rfl ?_
      refine wp_bipush hC dX9_laysBack_3 rfl ?_
      refine wp_icmp_ge (tgt := 23) hC dX9_laysBack_5 (by decide) (by omega) (by omega) (fun c_5 => ?_) (fun c_5 => ?_)
      · refine wp_iconst hC dX9_laysBack_23 ?_
        refine wp_istore_n (lv2 := [(0, _), (1, _), (2, _), (3, _)]) hC dX9_laysBack_24 rfl (by decide) ?_
        rw [show k = 40 by omega, LB_0]
        exact L25 _ _ rfl (by omega)
      · refine wp_aload_n hC dX9_laysBack_8 rfl ?_
        refine wp_geta (k := 0) hC (rfl) (by decide) (rfl) (rfl) (by decide) uX9_laysBack_X9 fX9_laysBack_9 (rfl) dX9_laysBack_9 ?_
        refine wp_iload_n hC dX9_laysBack_12 rfl ?_
        refine wp_aload_n hC dX9_laysBack_13 rfl ?_
        refine wp_iload_n hC dX9_laysBack_14 rfl ?_
        refine wp_iald hC (li) (Nat.le_of_ble_eq_true rfl) (ki) (hi) (by omega) dX9_laysBack_15 ?_
        refine wp_iast (n := 88) hC (rfl) (Nat.le_of_ble_eq_true rfl) (rfl) (by decide) (by omega) dX9_laysBack_16 ?_
        refine wp_iinc (lv2 := [(0, _), (1, _), (2, _), (3, _)]) hC dX9_laysBack_17 rfl rfl (by decide) ?_
        refine wp_goto (tgt := 2) hC dX9_laysBack_20 (by decide) ?_
        rw [cpy_s h1.1]
        exact ih _ (by omega) _ rfl (by omega)
  refine wp_iconst hC dX9_laysBack_0 ?_
  refine wp_istore_n (lv2 := [(0, _), (1, _), (2, _), (3, _)]) hC dX9_laysBack_1 rfl (by decide) ?_
  refine wp_st (σ2 := cpy σ i 1 0) cpy_0.symm ?_
  exact L2 _ _ rfl (by omega)

theorem hyVX9_allSupplies : yX9_allSupplies.cls = RX9 ∧ yX9_allSupplies.cls ≠ "java/lang/invoke/MethodHandle" ∧ yX9_allSupplies.cls ≠ "java/lang/invoke/VarHandle" ∧ (parseMethodDescriptor yX9_allSupplies.desc).map (fun d => d.parameters.length) = some 0 := by decide +kernel
theorem uX9_allSupplies_X9 : ∀ w ∈ u_ws RX9 TX9 35, w ∈ wsX9_allSupplies := by decide +kernel
theorem fX9_allSupplies_9 : Cond.fieldLink RX9 9 (TX9 0).1 (TX9 0).2.1 (TX9 0).2.2.1 ∈ wsX9_allSupplies := by decide +kernel
set_option maxHeartbeats 4000000 in
set_option maxRecDepth 100000 in
theorem c_X9_allSupplies {l : Launch} {G : Gy} (hG : Inj G) (σ : St) (hw : ∀ j, 0 ≤ j → j < 36 → 0 ≤ σ 1 j ∧ σ 1 j ≤ 99) : ME l yX9_allSupplies wsX9_allSupplies ({ frames := 0, cells := 0, slots := 0, locals := 0 } : Room) G [.ref (G.2.2 0)] σ (sm (σ 1) 36) σ := by
  refine MI.of hG (by decide +kernel) rfl rfl (Nat.le_of_ble_eq_true rfl) rfl ?_
  intro p e s m args below meth c H0 Q hC hret
  have L4 : ∀ (n : Nat) (k v : Int), ((36 - k).toNat) = n → (0 ≤ k ∧ k ≤ 36) → (v = sm (σ 1) k) → wp p l e ({ frames := 0, cells := 0, slots := 0, locals := 0 } : Room) s m args below meth c (aA G (Array.size H0)) H0 3 Q G σ 4 [(0, .ref (G.2.2 0)), (1, .int (zI (v))), (2, .int (zI (k)))] [] := by
    intro n4
    induction n4 using Nat.strongRecOn with
    | ind n4 ih =>
      intro k v hm4 h1 h2
      have hv := sm_ub (f := σ 1) (n := k) (c := 99) h1.1 (fun j a b => (hw j a (by omega)).2)
      have hv0 := sm_nn (f := σ 1) (n := k) (fun j a b => (hw j a (by omega)).1)
      refine wp_iload_n hC dX9_allSupplies_4 rfl ?_
      refine wp_bipush hC dX9_allSupplies_5 rfl ?_
      refine wp_icmp_ge (tgt := 27) hC dX9_allSupplies_7 (by decide) (by omega) (by omega) (fun c_7 => ?_) (fun c_7 => ?_)
      · refine wp_iload_n hC dX9_allSupplies_27 rfl ?_
        exact hret _ _ _ _ (by omega) rfl (⟨by rw [h2, show k = 36 by omega], rfl⟩) dX9_allSupplies_28
      · refine wp_iload_n hC dX9_allSupplies_10 rfl ?_
        refine wp_aload_n hC dX9_allSupplies_11 rfl ?_
        refine wp_geta (k := 0) hC (rfl) (by decide) (rfl) (rfl) (by decide) uX9_allSupplies_X9 fX9_allSupplies_9 (rfl) dX9_allSupplies_12 ?_
        refine wp_iconst hC dX9_allSupplies_15 ?_
        refine wp_iload_n hC dX9_allSupplies_16 rfl ?_
        refine wp_iadd hC dX9_allSupplies_17 ?_
        refine wp_iald (n := 88) hC (rfl) (Nat.le_of_ble_eq_true rfl) (rfl) (by decide) (by omega) dX9_allSupplies_18 ?_
        refine wp_iadd hC dX9_allSupplies_19 ?_
        refine wp_istore_n (lv2 := [(0, _), (1, _), (2, _)]) hC dX9_allSupplies_20 rfl (by decide) ?_
        refine wp_iinc (lv2 := [(0, _), (1, _), (2, _)]) hC dX9_allSupplies_21 rfl rfl (by decide) ?_
        refine wp_goto (tgt := 4) hC dX9_allSupplies_24 (by decide) ?_
        exact ih _ (by omega) _ _ rfl (by omega) (by rw [sm_s h1.1, ← h2, Int.zero_add])
  refine wp_iconst hC dX9_allSupplies_0 ?_
  refine wp_istore_n (lv2 := [(0, _), (1, _)]) hC dX9_allSupplies_1 rfl (by decide) ?_
  refine wp_iconst hC dX9_allSupplies_2 ?_
  refine wp_istore_n (lv2 := [(0, _), (1, _), (2, _)]) hC dX9_allSupplies_3 rfl (by decide) ?_
  exact L4 _ _ _ rfl (by omega) rfl

theorem hyVX9_shareOf : yX9_shareOf.cls = RX9 ∧ yX9_shareOf.cls ≠ "java/lang/invoke/MethodHandle" ∧ yX9_shareOf.cls ≠ "java/lang/invoke/VarHandle" ∧ (parseMethodDescriptor yX9_shareOf.desc).map (fun d => d.parameters.length) = some 1 := by decide +kernel
theorem uX9_shareOf_X9 : ∀ w ∈ u_ws RX9 TX9 35, w ∈ wsX9_shareOf := by decide +kernel
theorem fX9_shareOf_9 : Cond.fieldLink RX9 9 (TX9 0).1 (TX9 0).2.1 (TX9 0).2.2.1 ∈ wsX9_shareOf := by decide +kernel
set_option maxHeartbeats 4000000 in
set_option maxRecDepth 100000 in
theorem c_X9_shareOf {l : Launch} {G : Gy} (hG : Inj G) (σ : St) {g : Int} (hg : 0 ≤ g ∧ g ≤ 3) (h : wOK (σ 1)) : ME l yX9_shareOf wsX9_shareOf ({ frames := 1, cells := 0, slots := 0, locals := 22 } : Room) G [.ref (G.2.2 0), .int (zI (g))] σ (σ 1 (36 + g) * sm (σ 1) 36 / 100) σ := by
  refine MI.of hG (by decide +kernel) rfl rfl (Nat.le_of_ble_eq_true rfl) rfl ?_
  intro p e s m args below meth c H0 Q hC hret
  have hv := sm_ub (f := σ 1) (n := 36) (c := 99) (by decide) (fun j a b => (h.1 j a (by omega)).2)
  have hv0 := sm_nn (f := σ 1) (n := 36) (fun j a b => (h.1 j a (by omega)).1)
  have hs := h.2.1 (36 + g) (by omega) (by omega)
  have hm0 : 0 ≤ σ 1 (36 + g) * sm (σ 1) 36 := Int.mul_nonneg hs.1 hv0
  have hm1 : σ 1 (36 + g) * sm (σ 1) 36 ≤ 100 * 3564 := Int.mul_le_mul hs.2 (by omega) hv0 (by decide)
  refine wp_aload_n hC dX9_shareOf_0 rfl ?_
  refine wp_geta (k := 0) hC (rfl) (by decide) (rfl) (rfl) (by decide) uX9_shareOf_X9 fX9_shareOf_9 (rfl) dX9_shareOf_1 ?_
  refine wp_bipush hC dX9_shareOf_4 rfl ?_
  refine wp_iload_n hC dX9_shareOf_6 rfl ?_
  refine wp_iadd hC dX9_shareOf_7 ?_
  refine wp_iald (n := 88) hC (rfl) (Nat.le_of_ble_eq_true rfl) (rfl) (by decide) (by omega) dX9_shareOf_8 ?_
  refine wp_aload_n hC dX9_shareOf_9 rfl ?_
  refine wp_callVe (As := []) hC (c_X9_allSupplies hG _ h.1) gX9_shareOf_X9_allSupplies rfl ⟨rfl, rfl⟩ ⟨by decide, by decide⟩ hyVX9_allSupplies (rfl) (by decide) (rfl) rfl (Nat.le_of_ble_eq_true rfl) dX9_shareOf_10 (fun hx_10 => ?_)
  refine wp_imul hC dX9_shareOf_13 ?_
  refine wp_bipush hC dX9_shareOf_14 rfl ?_
  refine wp_idiv hC dX9_shareOf_16 (by omega) (by omega) ?_
  exact hret _ _ _ _ (by rw [Int.tdiv_eq_ediv_of_nonneg hm0]; omega) rfl (⟨Int.tdiv_eq_ediv_of_nonneg hm0, rfl⟩) dX9_shareOf_17

theorem hyVX9_amountsOf : yX9_amountsOf.cls = RX9 ∧ yX9_amountsOf.cls ≠ "java/lang/invoke/MethodHandle" ∧ yX9_amountsOf.cls ≠ "java/lang/invoke/VarHandle" ∧ (parseMethodDescriptor yX9_amountsOf.desc).map (fun d => d.parameters.length) = some 2 := by decide +kernel
theorem uX9_amountsOf_X9 : ∀ w ∈ u_ws RX9 TX9 35, w ∈ wsX9_amountsOf := by decide +kernel
theorem fX9_amountsOf_80 : Cond.fieldLink RX9 80 (TX9 5).1 (TX9 5).2.1 (TX9 5).2.2.1 ∈ wsX9_amountsOf := by decide +kernel
theorem fX9_amountsOf_13 : Cond.fieldLink RX9 13 (TX9 1).1 (TX9 1).2.1 (TX9 1).2.2.1 ∈ wsX9_amountsOf := by decide +kernel
theorem fX9_amountsOf_19 : Cond.fieldLink RX9 19 (TX9 3).1 (TX9 3).2.1 (TX9 3).2.2.1 ∈ wsX9_amountsOf := by decide +kernel
set_option maxHeartbeats 4000000 in
set_option maxRecDepth 100000 in
theorem c_X9_amountsOf {l : Launch} {G : Gy} (hG : Inj G) (σ : St) {B g : Int} (hB : 0 ≤ B ∧ B ≤ 2147483647) (hg : iR g) (hn : 0 ≤ σ 0 5 ∧ σ 0 5 ≤ 24) (ham : ∀ o, 0 ≤ o → o < 24 → 0 ≤ σ 2 o ∧ σ 2 o ≤ 60) (hgr : ∀ o, 0 ≤ o → o < 24 → 0 ≤ σ 4 o ∧ σ 4 o ≤ 3) : ME l yX9_amountsOf wsX9_amountsOf ({ frames := 0, cells := 0, slots := 0, locals := 0 } : Room) G [.ref (G.2.2 0), .int (zI (B)), .int (zI (g))] σ (amS (σ 0 5) (σ 2) (σ 4) (tb B) g) σ := by
  refine MI.of hG (by decide +kernel) rfl rfl (Nat.le_of_ble_eq_true rfl) rfl ?_
  intro p e s m args below meth c H0 Q hC hret
  have L5 : ∀ (n : Nat) (k v : Int), ((σ 0 5 - k).toNat) = n → (0 ≤ k ∧ k ≤ σ 0 5) → (v = amS k (σ 2) (σ 4) (tb B) g) → wp p l e ({ frames := 0, cells := 0, slots := 0, locals := 0 } : Room) s m args below meth c (aA G (Array.size H0)) H0 5 Q G σ 5 [(0, .ref (G.2.2 0)), (1, .int (zI (B))), (2, .int (zI (g))), (3, .int (zI (v))), (4, .int (zI (k)))] [] := by
    intro n5
    induction n5 using Nat.strongRecOn with
    | ind n5 ih =>
      intro k v hm5 h1 h2
      have hv := amS_rng (n := k) (am := σ 2) (gr := σ 4) (P := tb B) (g := g) h1.1 (fun o a b => ham o a (by omega))
      have ha := fun q : k < 24 => ham k h1.1 q
      have hgk := fun q : k < 24 => hgr k h1.1 q
      refine wp_iload hC dX9_amountsOf_5 rfl ?_
      refine wp_aload_n hC dX9_amountsOf_7 rfl ?_
      refine wp_geti (k := 5) (z := 5) hC rfl (rfl) (by decide) (rfl) (rfl) (by decide) uX9_amountsOf_X9 fX9_amountsOf_80 (rfl) dX9_amountsOf_8 ?_
      refine wp_icmp_ge (tgt := 59) hC dX9_amountsOf_11 (by decide) (by omega) (by omega) (fun c_11 => ?_) (fun c_11 => ?_)
      · refine wp_iload_n hC dX9_amountsOf_59 rfl ?_
        exact hret _ _ _ _ (by omega) rfl (⟨by rw [h2, show k = σ 0 5 by omega], rfl⟩) dX9_amountsOf_60
      · refine wp_iload_n hC dX9_amountsOf_14 rfl ?_
        refine wp_iload_n hC dX9_amountsOf_15 rfl ?_
        refine wp_iload hC dX9_amountsOf_16 rfl ?_
        refine wp_ishr hC dX9_amountsOf_18 ?_
        refine wp_iconst hC dX9_amountsOf_19 ?_
        refine wp_iand hC dX9_amountsOf_20 ?_
        refine wp_top (b := bI (tb B k = true)) (bit_at (by omega) (by omega) (by omega) (by omega)) ?_
        refine wp_iconst hC dX9_amountsOf_21 ?_
        refine wp_icmp_ne (tgt := 50) hC dX9_amountsOf_22 (by decide) (iR_bI) (by omega) (fun c_22 => ?_) (fun c_22 => ?_)
        · have c_22 : ¬ tb B k = true := bI_n1.mp c_22
          refine wp_iconst hC dX9_amountsOf_50 ?_
          refine wp_iadd hC dX9_amountsOf_51 ?_
          refine wp_istore_n (lv2 := [(0, _), (1, _), (2, _), (3, _), (4, _)]) hC dX9_amountsOf_52 rfl (by decide) ?_
          refine wp_iinc (lv2 := [(0, _), (1, _), (2, _), (3, _), (4, _)]) hC dX9_amountsOf_53 rfl rfl (by decide) ?_
          refine wp_goto (tgt := 5) hC dX9_amountsOf_56 (by decide) ?_
          exact ih _ (by omega) _ _ rfl (by omega) (by unfold amS; rw [sm_s h1.1, if_neg (by first | exact fun z => c_22 z.1 | omega), h2]; rfl)
        · have c_22 : tb B k = true := bI_1.mp c_22
          refine wp_iload_n hC dX9_amountsOf_25 rfl ?_
          refine wp_if_lt (tgt := 40) hC dX9_amountsOf_26 (by decide) (by omega) (fun c_26 => ?_) (fun c_26 => ?_)
          · refine wp_aload_n hC dX9_amountsOf_40 rfl ?_
            refine wp_geta (k := 1) hC (rfl) (by decide) (rfl) (rfl) (by decide) uX9_amountsOf_X9 fX9_amountsOf_13 (rfl) dX9_amountsOf_41 ?_
            refine wp_iload hC dX9_amountsOf_44 rfl ?_
            refine wp_iald (n := 24) hC (rfl) (Nat.le_of_ble_eq_true rfl) (rfl) (by decide) (by omega) dX9_amountsOf_46 ?_
            refine wp_goto (tgt := 51) hC dX9_amountsOf_47 (by decide) ?_
            refine wp_iadd hC dX9_amountsOf_51 ?_
            refine wp_istore_n (lv2 := [(0, _), (1, _), (2, _), (3, _), (4, _)]) hC dX9_amountsOf_52 rfl (by decide) ?_
            refine wp_iinc (lv2 := [(0, _), (1, _), (2, _), (3, _), (4, _)]) hC dX9_amountsOf_53 rfl rfl (by decide) ?_
            refine wp_goto (tgt := 5) hC dX9_amountsOf_56 (by decide) ?_
            exact ih _ (by omega) _ _ rfl (by omega) (by unfold amS; rw [sm_s h1.1, if_pos ⟨c_22, by omega⟩, h2]; rfl)
          · refine wp_aload_n hC dX9_amountsOf_29 rfl ?_
            refine wp_geta (k := 3) hC (rfl) (by decide) (rfl) (rfl) (by decide) uX9_amountsOf_X9 fX9_amountsOf_19 (rfl) dX9_amountsOf_30 ?_
            refine wp_iload hC dX9_amountsOf_33 rfl ?_
            refine wp_iald (n := 24) hC (rfl) (Nat.le_of_ble_eq_true rfl) (rfl) (by decide) (by omega) dX9_amountsOf_35 ?_
            refine wp_iload_n hC dX9_amountsOf_36 rfl ?_
            refine wp_icmp_ne (tgt := 50) hC dX9_amountsOf_37 (by decide) (by omega) (by omega) (fun c_37 => ?_) (fun c_37 => ?_)
            · refine wp_iconst hC dX9_amountsOf_50 ?_
              refine wp_iadd hC dX9_amountsOf_51 ?_
              refine wp_istore_n (lv2 := [(0, _), (1, _), (2, _), (3, _), (4, _)]) hC dX9_amountsOf_52 rfl (by decide) ?_
              refine wp_iinc (lv2 := [(0, _), (1, _), (2, _), (3, _), (4, _)]) hC dX9_amountsOf_53 rfl rfl (by decide) ?_
              refine wp_goto (tgt := 5) hC dX9_amountsOf_56 (by decide) ?_
              exact ih _ (by omega) _ _ rfl (by omega) (by unfold amS; rw [sm_s h1.1, if_neg (by first | exact fun z => c_22 z.1 | omega), h2]; rfl)
            · refine wp_aload_n hC dX9_amountsOf_40 rfl ?_
              refine wp_geta (k := 1) hC (rfl) (by decide) (rfl) (rfl) (by decide) uX9_amountsOf_X9 fX9_amountsOf_13 (rfl) dX9_amountsOf_41 ?_
              refine wp_iload hC dX9_amountsOf_44 rfl ?_
              refine wp_iald (n := 24) hC (rfl) (Nat.le_of_ble_eq_true rfl) (rfl) (by decide) (by omega) dX9_amountsOf_46 ?_
              refine wp_goto (tgt := 51) hC dX9_amountsOf_47 (by decide) ?_
              refine wp_iadd hC dX9_amountsOf_51 ?_
              refine wp_istore_n (lv2 := [(0, _), (1, _), (2, _), (3, _), (4, _)]) hC dX9_amountsOf_52 rfl (by decide) ?_
              refine wp_iinc (lv2 := [(0, _), (1, _), (2, _), (3, _), (4, _)]) hC dX9_amountsOf_53 rfl rfl (by decide) ?_
              refine wp_goto (tgt := 5) hC dX9_amountsOf_56 (by decide) ?_
              exact ih _ (by omega) _ _ rfl (by omega) (by unfold amS; rw [sm_s h1.1, if_pos ⟨c_22, by omega⟩, h2]; rfl)
  refine wp_iconst hC dX9_amountsOf_0 ?_
  refine wp_istore_n (lv2 := [(0, _), (1, _), (2, _), (3, _)]) hC dX9_amountsOf_1 rfl (by decide) ?_
  refine wp_iconst hC dX9_amountsOf_2 ?_
  refine wp_istore (lv2 := [(0, _), (1, _), (2, _), (3, _), (4, _)]) hC dX9_amountsOf_3 rfl (by decide) ?_
  exact L5 _ _ _ rfl (by omega) rfl

theorem hySX9_partOf : yX9_partOf.cls ≠ "java/lang/invoke/MethodHandle" ∧ yX9_partOf.cls ≠ "java/lang/invoke/VarHandle" ∧ (parseMethodDescriptor yX9_partOf.desc).map (fun d => d.parameters.length) = some 2 := by decide +kernel
set_option maxHeartbeats 4000000 in
set_option maxRecDepth 100000 in
theorem c_X9_partOf {l : Launch} {G : Gy} (hG : Inj G) (σ : St) {q i : Int} (hq : 0 ≤ q ∧ q ≤ 2147483647) (hi : 0 ≤ i ∧ i ≤ 2) : ME l yX9_partOf wsX9_partOf ({ frames := 0, cells := 0, slots := 0, locals := 0 } : Room) G [.int (zI (q)), .int (zI (i))] σ (prt q i) σ := by
  refine MI.of hG (by decide +kernel) rfl rfl (Nat.le_of_ble_eq_true rfl) rfl ?_
  intro p e s m args below meth c H0 Q hC hret
  have e1 : q.tdiv 10000 = q / 10000 := Int.tdiv_eq_ediv_of_nonneg hq.1
  have e2 : q.tdiv 100 = q / 100 := Int.tdiv_eq_ediv_of_nonneg hq.1
  have e3 : q.tmod 100 = q % 100 := Int.tmod_eq_emod_of_nonneg hq.1
  have e4 : (q / 100).tmod 100 = q / 100 % 100 := Int.tmod_eq_emod_of_nonneg (by omega)
  refine wp_iload_n hC dX9_partOf_0 rfl ?_
  refine wp_if_ne (tgt := 12) hC dX9_partOf_1 (by decide) (by omega) (fun c_1 => ?_) (fun c_1 => ?_)
  · refine wp_iload_n hC dX9_partOf_12 rfl ?_
    refine wp_iconst hC dX9_partOf_13 ?_
    refine wp_icmp_ne (tgt := 27) hC dX9_partOf_14 (by decide) (by omega) (by omega) (fun c_14 => ?_) (fun c_14 => ?_)
    · refine wp_iload_n hC dX9_partOf_27 rfl ?_
      refine wp_bipush hC dX9_partOf_28 rfl ?_
      refine wp_irem hC dX9_partOf_30 (by omega) (by omega) ?_
      exact hret _ _ _ _ (by rw [e3]; omega) rfl (⟨by unfold prt; rw [if_neg c_1, if_neg c_14, e3], rfl⟩) dX9_partOf_31
    · refine wp_iload_n hC dX9_partOf_17 rfl ?_
      refine wp_bipush hC dX9_partOf_18 rfl ?_
      refine wp_idiv hC dX9_partOf_20 (by omega) (by omega) ?_
      rw [e2]
      refine wp_bipush hC dX9_partOf_21 rfl ?_
      refine wp_irem hC dX9_partOf_23 (by omega) (by omega) ?_
      refine wp_goto (tgt := 31) hC dX9_partOf_24 (by decide) ?_
      exact hret _ _ _ _ (by rw [e4]; omega) rfl (⟨by unfold prt; rw [if_neg c_1, if_pos c_14, e4], rfl⟩) dX9_partOf_31
  · refine wp_iload_n hC dX9_partOf_4 rfl ?_
    refine wp_sipush hC dX9_partOf_5 rfl ?_
    refine wp_idiv hC dX9_partOf_8 (by omega) (by omega) ?_
    refine wp_goto (tgt := 31) hC dX9_partOf_9 (by decide) ?_
    exact hret _ _ _ _ (by rw [e1]; omega) rfl (⟨by unfold prt; rw [if_pos c_1, e1], rfl⟩) dX9_partOf_31

theorem hyVX9_holds : yX9_holds.cls = RX9 ∧ yX9_holds.cls ≠ "java/lang/invoke/MethodHandle" ∧ yX9_holds.cls ≠ "java/lang/invoke/VarHandle" ∧ (parseMethodDescriptor yX9_holds.desc).map (fun d => d.parameters.length) = some 3 := by decide +kernel
set_option maxHeartbeats 4000000 in
set_option maxRecDepth 100000 in
theorem c_X9_holds {l : Launch} {G : Gy} (hG : Inj G) (σ : St) {q it la : Int} (hq : 0 ≤ q ∧ q ≤ 2147483647) (hi : 0 ≤ it ∧ it ≤ 7) (hl : 0 ≤ la ∧ la ≤ 11) : MP l yX9_holds wsX9_holds ({ frames := 1, cells := 0, slots := 0, locals := 21 } : Room) G [.ref (G.2.2 0), .int (zI (q)), .int (zI (it)), .int (zI (la))] σ (fun x => bP x (hS it la (prt q 0) (prt q 1) (prt q 2))) := by
  refine MI.of hG (by decide +kernel) rfl rfl (Nat.le_of_ble_eq_true rfl) rfl ?_
  intro p e s m args below meth c H0 Q hC hret
  have L3 : ∀ (n : Nat) (k : Int), ((3 - k).toNat) = n → (0 ≤ k ∧ k ≤ 3) → (∀ j, 0 ≤ j → j < k → tb it j = false ∨ la < prt q j) → wp p l e ({ frames := 1, cells := 0, slots := 0, locals := 21 } : Room) s m args below meth c (aA G (Array.size H0)) H0 5 Q G σ 3 [(0, .ref (G.2.2 0)), (1, .int (zI (q))), (2, .int (zI (it))), (3, .int (zI (la))), (4, .int (zI (k)))] [] := by
    intro n3
    induction n3 using Nat.strongRecOn with
    | ind n3 ih =>
      intro k hm3 h1 h2
      have hpr : 0 ≤ prt q k ∧ prt q k ≤ 2147483647 := by unfold prt; split <;> (try split) <;> omega
      refine wp_iload hC dX9_holds_3 rfl ?_
      refine wp_iconst hC dX9_holds_5 ?_
      refine wp_icmp_ge (tgt := 37) hC dX9_holds_6 (by decide) (by omega) (by omega) (fun c_6 => ?_) (fun c_6 => ?_)
      · refine wp_iconst hC dX9_holds_37 ?_
        exact hret _ _ _ _ (by omega) rfl (⟨Or.inl ⟨rfl, h2 0 (by omega) (by omega), h2 1 (by omega) (by omega), h2 2 (by omega) (by omega)⟩, rfl⟩) dX9_holds_38
      · refine wp_iload_n hC dX9_holds_9 rfl ?_
        refine wp_iload hC dX9_holds_10 rfl ?_
        refine wp_ishr hC dX9_holds_12 ?_
        refine wp_iconst hC dX9_holds_13 ?_
        refine wp_iand hC dX9_holds_14 ?_
        refine wp_top (b := bI (tb it k = true)) (bit_at (by omega) (by omega) (by omega) (by omega)) ?_
        refine wp_iconst hC dX9_holds_15 ?_
        refine wp_icmp_ne (tgt := 31) hC dX9_holds_16 (by decide) (iR_bI) (by omega) (fun c_16 => ?_) (fun c_16 => ?_)
        · refine wp_iinc (lv2 := [(0, _), (1, _), (2, _), (3, _), (4, _)]) hC dX9_holds_31 rfl rfl (by decide) ?_
          refine wp_goto (tgt := 3) hC dX9_holds_34 (by decide) ?_
          exact ih _ (by omega) _ rfl (by omega) (fun j a b => by
            rcases Int.lt_or_le j k with z | z
            · exact h2 j a z
            · rw [show j = k by omega]; exact Or.inl (Bool.eq_false_iff.mpr (bI_n1.mp c_16)))
        · refine wp_iload_n hC dX9_holds_19 rfl ?_
          refine wp_iload_n hC dX9_holds_20 rfl ?_
          refine wp_iload hC dX9_holds_21 rfl ?_
          refine wp_callSe (As := [_, _]) hC (c_X9_partOf hG _ (by omega) (by omega)) gX9_holds_X9_partOf rfl ⟨rfl, rfl⟩ ⟨by decide, by decide⟩ hySX9_partOf rfl (Nat.le_of_ble_eq_true rfl) dX9_holds_23 (fun hx_23 => ?_)
          refine wp_icmp_lt (tgt := 31) hC dX9_holds_26 (by decide) (by omega) (by omega) (fun c_26 => ?_) (fun c_26 => ?_)
          · refine wp_iinc (lv2 := [(0, _), (1, _), (2, _), (3, _), (4, _)]) hC dX9_holds_31 rfl rfl (by decide) ?_
            refine wp_goto (tgt := 3) hC dX9_holds_34 (by decide) ?_
            exact ih _ (by omega) _ rfl (by omega) (fun j a b => by
              rcases Int.lt_or_le j k with z | z
              · exact h2 j a z
              · rw [show j = k by omega]; exact Or.inr c_26)
          · refine wp_iconst hC dX9_holds_29 ?_
            exact hret _ _ _ _ (by omega) rfl (⟨Or.inr ⟨rfl, fun z => by
                have c16 : tb it k = true := bI_1.mp c_16
                obtain ⟨z0, z1, z2⟩ := z
                have hk : k = 0 ∨ k = 1 ∨ k = 2 := by omega
                rcases hk with rfl | rfl | rfl
                · rcases z0 with z0 | z0
                  · rw [c16] at z0; cases z0
                  · omega
                · rcases z1 with z1 | z1
                  · rw [c16] at z1; cases z1
                  · omega
                · rcases z2 with z2 | z2
                  · rw [c16] at z2; cases z2
                  · omega⟩, rfl⟩) dX9_holds_30
  refine wp_iconst hC dX9_holds_0 ?_
  refine wp_istore (lv2 := [(0, _), (1, _), (2, _), (3, _), (4, _)]) hC dX9_holds_1 rfl (by decide) ?_
  exact L3 _ _ rfl (by omega) (fun j a b => by omega)

theorem hySX9_step : yX9_step.cls ≠ "java/lang/invoke/MethodHandle" ∧ yX9_step.cls ≠ "java/lang/invoke/VarHandle" ∧ (parseMethodDescriptor yX9_step.desc).map (fun d => d.parameters.length) = some 1 := by decide +kernel
set_option maxHeartbeats 4000000 in
set_option maxRecDepth 100000 in
theorem c_X9_step {l : Launch} {G : Gy} (hG : Inj G) (σ : St) {k : Int} (hk : 0 ≤ k ∧ k < 2197) : ME l yX9_step wsX9_step ({ frames := 0, cells := 0, slots := 0, locals := 0 } : Room) G [.int (zI (k))] σ (stp k) σ := by
  refine MI.of hG (by decide +kernel) rfl rfl (Nat.le_of_ble_eq_true rfl) rfl ?_
  intro p e s m args below meth c H0 Q hC hret
  have e1 : k.tdiv 169 = k / 169 := Int.tdiv_eq_ediv_of_nonneg hk.1
  have e2 : k.tdiv 13 = k / 13 := Int.tdiv_eq_ediv_of_nonneg hk.1
  have e3 : (k / 13).tmod 13 = k / 13 % 13 := Int.tmod_eq_emod_of_nonneg (by omega)
  have e4 : k.tmod 13 = k % 13 := Int.tmod_eq_emod_of_nonneg hk.1
  refine wp_sipush hC dX9_step_0 rfl ?_
  refine wp_iload_n hC dX9_step_3 rfl ?_
  refine wp_sipush hC dX9_step_4 rfl ?_
  refine wp_idiv hC dX9_step_7 (by omega) (by omega) ?_
  refine wp_imul hC dX9_step_8 ?_
  refine wp_bipush hC dX9_step_9 rfl ?_
  refine wp_iload_n hC dX9_step_11 rfl ?_
  refine wp_bipush hC dX9_step_12 rfl ?_
  refine wp_idiv hC dX9_step_14 (by omega) (by omega) ?_
  rw [e2]
  refine wp_bipush hC dX9_step_15 rfl ?_
  refine wp_irem hC dX9_step_17 (by omega) (by omega) ?_
  refine wp_imul hC dX9_step_18 ?_
  refine wp_iadd hC dX9_step_19 ?_
  refine wp_iload_n hC dX9_step_20 rfl ?_
  refine wp_bipush hC dX9_step_21 rfl ?_
  refine wp_irem hC dX9_step_23 (by omega) (by omega) ?_
  refine wp_iadd hC dX9_step_24 ?_
  rw [e1, e3, e4]
  exact hret _ _ _ _ (by omega) rfl (⟨rfl, rfl⟩) dX9_step_25

/-- sums of supplies, the first n of 39 -/
def FSk (σ : St) (n : Int) : St := fun a b => if a = 11 ∧ 0 ≤ b ∧ b < n then sq (σ 1) (b / 13) (b % 13) else σ a b
theorem FSk_0 {σ : St} : FSk σ 0 = σ := by
  funext a b
  unfold FSk
  rw [if_neg (by omega)]
theorem FSk_s {σ : St} {n v : Int} (h : 0 ≤ n) (hv : v = sq (σ 1) (n / 13) (n % 13)) : put (FSk σ n) 11 n v = FSk σ (n + 1) := by
  funext a b
  unfold put FSk
  by_cases h1 : a = 11 ∧ b = n
  · rw [if_pos h1, if_pos (by omega), h1.2, hv]
  · rw [if_neg h1]
    by_cases h2 : a = 11 ∧ 0 ≤ b ∧ b < n
    · rw [if_pos h2, if_pos (by omega)]
    · rw [if_neg h2, if_neg (by omega)]
def SUMS (σ : St) : Prop := ∀ i q, 0 ≤ i → i < 3 → 0 ≤ q → q ≤ 12 → σ 11 (13 * i + q) = sq (σ 1) i q
theorem FSk_SUMS {σ : St} : SUMS (FSk σ 39) := by
  intro i q h0 h1 h2 h3
  show (if 11 = 11 ∧ 0 ≤ 13 * i + q ∧ 13 * i + q < 39 then sq (σ 1) ((13 * i + q) / 13) ((13 * i + q) % 13) else _) = sq (σ 1) i q
  rw [if_pos (by omega), show (13 * i + q) / 13 = i by omega, show (13 * i + q) % 13 = q by omega]
theorem FSk_S1 {σ : St} {n : Int} : FSk σ n = S1 σ (FSk σ n) := by
  funext a b
  unfold S1
  split
  · rfl
  · rename_i h
    unfold FSk
    by_cases q : a = 11 ∧ 0 ≤ b ∧ b < n
    · exact absurd (by rw [q.1]; rfl) h
    · rw [if_neg q]

theorem hyVX9_findSums : yX9_findSums.cls = RX9 ∧ yX9_findSums.cls ≠ "java/lang/invoke/MethodHandle" ∧ yX9_findSums.cls ≠ "java/lang/invoke/VarHandle" ∧ (parseMethodDescriptor yX9_findSums.desc).map (fun d => d.parameters.length) = some 0 := by decide +kernel
theorem uX9_findSums_X9 : ∀ w ∈ u_ws RX9 TX9 35, w ∈ wsX9_findSums := by decide +kernel
theorem fX9_findSums_9 : Cond.fieldLink RX9 9 (TX9 0).1 (TX9 0).2.1 (TX9 0).2.2.1 ∈ wsX9_findSums := by decide +kernel
theorem fX9_findSums_46 : Cond.fieldLink RX9 46 (TX9 16).1 (TX9 16).2.1 (TX9 16).2.2.1 ∈ wsX9_findSums := by decide +kernel
set_option maxHeartbeats 4000000 in
set_option maxRecDepth 100000 in
theorem c_X9_findSums {l : Launch} {G : Gy} (hG : Inj G) (σ : St) (hw : ∀ j, 0 ≤ j → j < 36 → 0 ≤ σ 1 j ∧ σ 1 j ≤ 99) : MU l yX9_findSums wsX9_findSums ({ frames := 1, cells := 0, slots := 0, locals := 21 } : Room) G [.ref (G.2.2 0)] σ (FSk σ 39) := by
  refine MV.of hG (by decide +kernel) rfl rfl (Nat.le_of_ble_eq_true rfl) rfl ?_
  intro p e s m args below meth c H0 Q hC hret
  have L2 : ∀ (n : Nat) (i : Int), ((3 - i).toNat) = n → (0 ≤ i ∧ i ≤ 3) → wp p l e ({ frames := 1, cells := 0, slots := 0, locals := 21 } : Room) s m args below meth c (aA G (Array.size H0)) H0 4 Q G (FSk σ (13 * i)) 2 [(0, .ref (G.2.2 0)), (1, .int (zI (i)))] [] := by
    intro n2
    induction n2 using Nat.strongRecOn with
    | ind n2 ih =>
      intro i hm2 h1
      have L21 : ∀ (n : Nat) (j v : Int), ((12 - j).toNat) = n → (i < 3) → (0 ≤ j ∧ j ≤ 12) → (v = sq (σ 1) i j) → wp p l e ({ frames := 1, cells := 0, slots := 0, locals := 21 } : Room) s m args below meth c (aA G (Array.size H0)) H0 4 Q G (FSk σ (13 * i + j + 1)) 21 [(0, .ref (G.2.2 0)), (1, .int (zI (i))), (2, .int (zI (v))), (3, .int (zI (j)))] [] := by
        intro n21
        induction n21 using Nat.strongRecOn with
        | ind n21 ih21 =>
          intro j v hm21 g0 g1 g2
          have hv := sq_rng hw (i := i) (q := j) (by omega) g1
          have hwj := fun q : j < 12 => hw (12 * i + j) (by omega) (by omega)
          refine wp_iload_n hC dX9_findSums_21 rfl ?_
          refine wp_bipush hC dX9_findSums_22 rfl ?_
          refine wp_icmp_ge (tgt := 60) hC dX9_findSums_24 (by decide) (by omega) (by omega) (fun c_24 => ?_) (fun c_24 => ?_)
          · refine wp_iinc (lv2 := [(0, _), (1, _), (2, _), (3, _)]) hC dX9_findSums_60 rfl rfl (by decide) ?_
            refine wp_goto (tgt := 2) hC dX9_findSums_63 (by decide) ?_
            refine wp_lv hC [0, 1] rfl ?_
            rw [show 13 * i + j + 1 = 13 * (i + 1) by omega]
            exact ih _ (by omega) _ rfl (by omega)
          · refine wp_iload_n hC dX9_findSums_27 rfl ?_
            refine wp_aload_n hC dX9_findSums_28 rfl ?_
            refine wp_geta (k := 0) hC (rfl) (by decide) (rfl) (rfl) (by decide) uX9_findSums_X9 fX9_findSums_9 (rfl) dX9_findSums_29 ?_
            refine wp_iload_n hC dX9_findSums_32 rfl ?_
            refine wp_iload_n hC dX9_findSums_33 rfl ?_
            refine wp_callSe (As := [_, _]) hC (c_X9_at hG _ (by omega) (by omega)) gX9_findSums_X9_at rfl ⟨rfl, rfl⟩ ⟨by decide, by decide⟩ hySX9_at rfl (Nat.le_of_ble_eq_true rfl) dX9_findSums_34 (fun hx_34 => ?_)
            refine wp_iald (n := 88) hC (rfl) (Nat.le_of_ble_eq_true rfl) (rfl) (by decide) (by omega) dX9_findSums_37 ?_
            refine wp_iadd hC dX9_findSums_38 ?_
            refine wp_top (b := v + σ 1 (12 * i + j)) rfl ?_
            refine wp_istore_n (lv2 := [(0, _), (1, _), (2, _), (3, _)]) hC dX9_findSums_39 rfl (by decide) ?_
            refine wp_aload_n hC dX9_findSums_40 rfl ?_
            refine wp_geta (k := 16) hC (rfl) (by decide) (rfl) (rfl) (by decide) uX9_findSums_X9 fX9_findSums_46 (rfl) dX9_findSums_41 ?_
            refine wp_bipush hC dX9_findSums_44 rfl ?_
            refine wp_iload_n hC dX9_findSums_46 rfl ?_
            refine wp_imul hC dX9_findSums_47 ?_
            refine wp_iload_n hC dX9_findSums_48 rfl ?_
            refine wp_iadd hC dX9_findSums_49 ?_
            refine wp_iconst hC dX9_findSums_50 ?_
            refine wp_iadd hC dX9_findSums_51 ?_
            refine wp_iload_n hC dX9_findSums_52 rfl ?_
            refine wp_iast (n := 39) hC (rfl) (Nat.le_of_ble_eq_true rfl) (rfl) (by decide) (by omega) dX9_findSums_53 ?_
            refine wp_iinc (lv2 := [(0, _), (1, _), (2, _), (3, _)]) hC dX9_findSums_54 rfl rfl (by decide) ?_
            refine wp_goto (tgt := 21) hC dX9_findSums_57 (by decide) ?_
            refine wp_st (σ2 := FSk σ (13 * i + (j + 1) + 1)) (by rw [FSk_s (n := 13 * i + j + 1) (by omega) (by rw [show (13 * i + j + 1) / 13 = i by omega, show (13 * i + j + 1) % 13 = j + 1 by omega, g2]; exact (sm_s g1.1).symm), show 13 * i + j + 1 + 1 = 13 * i + (j + 1) + 1 by omega]) ?_
            exact ih21 _ (by omega) _ _ rfl g0 (by omega) (by rw [g2]; exact (sm_s g1.1).symm)
      refine wp_iload_n hC dX9_findSums_2 rfl ?_
      refine wp_iconst hC dX9_findSums_3 ?_
      refine wp_icmp_ge (tgt := 66) hC dX9_findSums_4 (by decide) (by omega) (by omega) (fun c_4 => ?_) (fun c_4 => ?_)
      · exact hret _ _ _ (by rw [show 13 * i = 39 by omega]) dX9_findSums_66
      · refine wp_iconst hC dX9_findSums_7 ?_
        refine wp_istore_n (lv2 := [(0, _), (1, _), (2, _)]) hC dX9_findSums_8 rfl (by decide) ?_
        refine wp_aload_n hC dX9_findSums_9 rfl ?_
        refine wp_geta (k := 16) hC (rfl) (by decide) (rfl) (rfl) (by decide) uX9_findSums_X9 fX9_findSums_46 (rfl) dX9_findSums_10 ?_
        refine wp_bipush hC dX9_findSums_13 rfl ?_
        refine wp_iload_n hC dX9_findSums_15 rfl ?_
        refine wp_imul hC dX9_findSums_16 ?_
        refine wp_iconst hC dX9_findSums_17 ?_
        refine wp_iast (n := 39) hC (rfl) (Nat.le_of_ble_eq_true rfl) (rfl) (by decide) (by omega) dX9_findSums_18 ?_
        refine wp_iconst hC dX9_findSums_19 ?_
        refine wp_istore_n (lv2 := [(0, _), (1, _), (2, _), (3, _)]) hC dX9_findSums_20 rfl (by decide) ?_
        refine wp_st (σ2 := FSk σ (13 * i + 0 + 1)) (by rw [FSk_s (by omega) (by rw [show 13 * i % 13 = 0 by omega]; rfl), Int.add_zero]) ?_
        exact L21 _ _ _ rfl c_4 (by omega) rfl
  refine wp_iconst hC dX9_findSums_0 ?_
  refine wp_istore_n (lv2 := [(0, _), (1, _)]) hC dX9_findSums_1 rfl (by decide) ?_
  refine wp_st (σ2 := FSk σ (13 * 0)) FSk_0.symm ?_
  exact L2 _ _ rfl (by omega)

theorem sm_3 {f : Int → Int} : sm f 3 = f 0 + f 1 + f 2 := by
  rw [show (3 : Int) = 2 + 1 from rfl, sm_s (by decide), show (2 : Int) = 1 + 1 from rfl, sm_s (by decide), show (1 : Int) = 0 + 1 from rfl, sm_s (by decide), sm_0]
  omega

theorem hyVX9_leftAt : yX9_leftAt.cls = RX9 ∧ yX9_leftAt.cls ≠ "java/lang/invoke/MethodHandle" ∧ yX9_leftAt.cls ≠ "java/lang/invoke/VarHandle" ∧ (parseMethodDescriptor yX9_leftAt.desc).map (fun d => d.parameters.length) = some 2 := by decide +kernel
theorem uX9_leftAt_X9 : ∀ w ∈ u_ws RX9 TX9 35, w ∈ wsX9_leftAt := by decide +kernel
theorem fX9_leftAt_80 : Cond.fieldLink RX9 80 (TX9 5).1 (TX9 5).2.1 (TX9 5).2.2.1 ∈ wsX9_leftAt := by decide +kernel
theorem fX9_leftAt_16 : Cond.fieldLink RX9 16 (TX9 2).1 (TX9 2).2.1 (TX9 2).2.2.1 ∈ wsX9_leftAt := by decide +kernel
theorem fX9_leftAt_9 : Cond.fieldLink RX9 9 (TX9 0).1 (TX9 0).2.1 (TX9 0).2.2.1 ∈ wsX9_leftAt := by decide +kernel
theorem fX9_leftAt_13 : Cond.fieldLink RX9 13 (TX9 1).1 (TX9 1).2.1 (TX9 1).2.2.1 ∈ wsX9_leftAt := by decide +kernel
theorem fX9_leftAt_46 : Cond.fieldLink RX9 46 (TX9 16).1 (TX9 16).2.1 (TX9 16).2.2.1 ∈ wsX9_leftAt := by decide +kernel
set_option maxHeartbeats 4000000 in
set_option maxRecDepth 100000 in
theorem c_X9_leftAt {l : Launch} {G : Gy} (hG : Inj G) (σ : St) {q B : Int} (h : RO σ) (hs : SUMS σ) (hB : 0 ≤ B ∧ B ≤ 2147483647) (hq : 0 ≤ q ∧ q ≤ 2147483647) (hp : ∀ i, 0 ≤ i → i ≤ 2 → 0 ≤ prt q i ∧ prt q i ≤ 12) : ME l yX9_leftAt wsX9_leftAt ({ frames := 2, cells := 0, slots := 0, locals := 45 } : Room) G [.ref (G.2.2 0), .int (zI (q)), .int (zI (B))] σ (LFT (σ 1) (σ 0 5) (σ 2) (σ 3) (fun o => σ 1 (64 + o)) (tb B) (prt q 0) (prt q 1) (prt q 2)) σ := by
  refine MI.of hG (by decide +kernel) rfl rfl (Nat.le_of_ble_eq_true rfl) rfl ?_
  intro p e s m args below meth c H0 Q hC hret
  have hn := h.1
  have rngs : ∀ j, 0 ≤ j → j < 3 → 0 ≤ sq (σ 1) j (prt q j) ∧ sq (σ 1) j (prt q j) ≤ 1188 := fun j a b => by
    have := hp j a (by omega)
    have := sq_rng (su := σ 1) h.2.1.1 (i := j) (q := prt q j) (by omega) (by omega)
    omega
  have L40 : ∀ (n : Nat) (k v : Int), ((σ 0 5 - k).toNat) = n → (0 ≤ k ∧ k ≤ σ 0 5) → (v = sm (fun j => sq (σ 1) j (prt q j)) 3 - dm k (σ 2) (σ 3) (fun o => σ 1 (64 + o)) (tb B) (prt q 0) (prt q 1) (prt q 2)) → wp p l e ({ frames := 2, cells := 0, slots := 0, locals := 45 } : Room) s m args below meth c (aA G (Array.size H0)) H0 5 Q G σ 40 [(0, .ref (G.2.2 0)), (1, .int (zI (q))), (2, .int (zI (B))), (3, .int (zI (v))), (4, .int (zI (k)))] [] := by
    intro n40
    induction n40 using Nat.strongRecOn with
    | ind n40 ih =>
      intro k v hm40 h1 h2
      have hd := dm_rng (n := k) (am := σ 2) (it := σ 3) (la := fun o => σ 1 (64 + o)) (P := tb B) (a := prt q 0) (b := prt q 1) (c := prt q 2) h1.1 (fun o x y => h.2.2.1 o x (by omega))
      have h3 : sm (fun j => sq (σ 1) j (prt q j)) 3 = _ := sm_3
      have r0 := rngs 0 (by omega) (by omega)
      have r1 := rngs 1 (by omega) (by omega)
      have r2 := rngs 2 (by omega) (by omega)
      have ha := fun z : k < 24 => h.2.2.1 k h1.1 z
      have hit := fun z : k < 24 => h.2.2.2.1 k h1.1 z
      have hla := fun z : k < 24 => h.2.1.2.2.2 (64 + k) (by omega) (by omega)
      have hds : dm (k + 1) (σ 2) (σ 3) (fun o => σ 1 (64 + o)) (tb B) (prt q 0) (prt q 1) (prt q 2) = _ := sm_s h1.1
      refine wp_iload hC dX9_leftAt_40 rfl ?_
      refine wp_aload_n hC dX9_leftAt_42 rfl ?_
      refine wp_geti (k := 5) (z := 5) hC rfl (rfl) (by decide) (rfl) (rfl) (by decide) uX9_leftAt_X9 fX9_leftAt_80 (rfl) dX9_leftAt_43 ?_
      refine wp_icmp_ge (tgt := 104) hC dX9_leftAt_46 (by decide) (by omega) (by omega) (fun c_46 => ?_) (fun c_46 => ?_)
      · refine wp_iload_n hC dX9_leftAt_104 rfl ?_
        exact hret _ _ _ _ (by rw [h2]; omega) rfl (⟨by rw [h2, show k = σ 0 5 by omega, h3]; rfl, rfl⟩) dX9_leftAt_105
      · refine wp_iload_n hC dX9_leftAt_49 rfl ?_
        refine wp_iload_n hC dX9_leftAt_50 rfl ?_
        refine wp_iload hC dX9_leftAt_51 rfl ?_
        refine wp_ishr hC dX9_leftAt_53 ?_
        refine wp_iconst hC dX9_leftAt_54 ?_
        refine wp_iand hC dX9_leftAt_55 ?_
        refine wp_top (b := bI (tb B k = true)) (bit_at (by omega) (by omega) (by omega) (by omega)) ?_
        refine wp_iconst hC dX9_leftAt_56 ?_
        refine wp_icmp_ne (tgt := 95) hC dX9_leftAt_57 (by decide) (iR_bI) (by omega) (fun c_57 => ?_) (fun c_57 => ?_)
        · have c_57 : ¬ tb B k = true := bI_n1.mp c_57
          refine wp_iconst hC dX9_leftAt_95 ?_
          refine wp_isub hC dX9_leftAt_96 ?_
          refine wp_istore_n (lv2 := [(0, _), (1, _), (2, _), (3, _), (4, _)]) hC dX9_leftAt_97 rfl (by decide) ?_
          refine wp_iinc (lv2 := [(0, _), (1, _), (2, _), (3, _), (4, _)]) hC dX9_leftAt_98 rfl rfl (by decide) ?_
          refine wp_goto (tgt := 40) hC dX9_leftAt_101 (by decide) ?_
          exact ih _ (by omega) _ _ rfl (by omega) (by rw [hds, if_neg (by rw [Bool.and_eq_true]; exact fun z => c_57 z.1), h2]; unfold dm; omega)
        · have c_57 : tb B k = true := bI_1.mp c_57
          refine wp_aload_n hC dX9_leftAt_60 rfl ?_
          refine wp_iload_n hC dX9_leftAt_61 rfl ?_
          refine wp_aload_n hC dX9_leftAt_62 rfl ?_
          refine wp_geta (k := 2) hC (rfl) (by decide) (rfl) (rfl) (by decide) uX9_leftAt_X9 fX9_leftAt_16 (rfl) dX9_leftAt_63 ?_
          refine wp_iload hC dX9_leftAt_66 rfl ?_
          refine wp_iald (n := 24) hC (rfl) (Nat.le_of_ble_eq_true rfl) (rfl) (by decide) (by omega) dX9_leftAt_68 ?_
          refine wp_aload_n hC dX9_leftAt_69 rfl ?_
          refine wp_geta (k := 0) hC (rfl) (by decide) (rfl) (rfl) (by decide) uX9_leftAt_X9 fX9_leftAt_9 (rfl) dX9_leftAt_70 ?_
          refine wp_bipush hC dX9_leftAt_73 rfl ?_
          refine wp_iload hC dX9_leftAt_75 rfl ?_
          refine wp_iadd hC dX9_leftAt_77 ?_
          refine wp_iald (n := 88) hC (rfl) (Nat.le_of_ble_eq_true rfl) (rfl) (by decide) (by omega) dX9_leftAt_78 ?_
          refine wp_callVp (As := [_, _, _]) hC (c_X9_holds hG _ (by omega) (by omega) (by omega)) gX9_leftAt_X9_holds rfl ⟨rfl, rfl⟩ ⟨by decide, by decide⟩ hyVX9_holds (rfl) (by decide) (rfl) rfl (Nat.le_of_ble_eq_true rfl) dX9_leftAt_79 (fun x_79 hx_79 hp_79 => ?_)
          refine wp_if_eq (tgt := 95) hC dX9_leftAt_82 (by decide) (bP_iR hp_79) (fun c_82 => ?_) (fun c_82 => ?_)
          · refine wp_iconst hC dX9_leftAt_95 ?_
            refine wp_isub hC dX9_leftAt_96 ?_
            refine wp_istore_n (lv2 := [(0, _), (1, _), (2, _), (3, _), (4, _)]) hC dX9_leftAt_97 rfl (by decide) ?_
            refine wp_iinc (lv2 := [(0, _), (1, _), (2, _), (3, _), (4, _)]) hC dX9_leftAt_98 rfl rfl (by decide) ?_
            refine wp_goto (tgt := 40) hC dX9_leftAt_101 (by decide) ?_
            exact ih _ (by omega) _ _ rfl (by omega) (by rw [hds, if_neg (by rw [Bool.and_eq_true]; exact fun z => bP_0 hp_79 c_82 (hSb_iff.mp z.2)), h2]; unfold dm; omega)
          · refine wp_aload_n hC dX9_leftAt_85 rfl ?_
            refine wp_geta (k := 1) hC (rfl) (by decide) (rfl) (rfl) (by decide) uX9_leftAt_X9 fX9_leftAt_13 (rfl) dX9_leftAt_86 ?_
            refine wp_iload hC dX9_leftAt_89 rfl ?_
            refine wp_iald (n := 24) hC (rfl) (Nat.le_of_ble_eq_true rfl) (rfl) (by decide) (by omega) dX9_leftAt_91 ?_
            refine wp_goto (tgt := 96) hC dX9_leftAt_92 (by decide) ?_
            refine wp_isub hC dX9_leftAt_96 ?_
            refine wp_istore_n (lv2 := [(0, _), (1, _), (2, _), (3, _), (4, _)]) hC dX9_leftAt_97 rfl (by decide) ?_
            refine wp_iinc (lv2 := [(0, _), (1, _), (2, _), (3, _), (4, _)]) hC dX9_leftAt_98 rfl rfl (by decide) ?_
            refine wp_goto (tgt := 40) hC dX9_leftAt_101 (by decide) ?_
            exact ih _ (by omega) _ _ rfl (by omega) (by rw [hds, if_pos (by rw [Bool.and_eq_true]; exact ⟨c_57, hSb_iff.mpr (bP_1 hp_79 c_82)⟩), h2]; unfold dm; omega)
  have L5 : ∀ (n : Nat) (k v : Int), ((3 - k).toNat) = n → (0 ≤ k ∧ k ≤ 3) → (v = sm (fun j => sq (σ 1) j (prt q j)) k) → wp p l e ({ frames := 2, cells := 0, slots := 0, locals := 45 } : Room) s m args below meth c (aA G (Array.size H0)) H0 5 Q G σ 5 [(0, .ref (G.2.2 0)), (1, .int (zI (q))), (2, .int (zI (B))), (3, .int (zI (v))), (4, .int (zI (k)))] [] := by
    intro n5
    induction n5 using Nat.strongRecOn with
    | ind n5 ih =>
      intro k v hm5 h1 h2
      have hv := sm_ub (f := fun j => sq (σ 1) j (prt q j)) (n := k) (c := 1188) h1.1 (fun j a b => (rngs j a (by omega)).2)
      have hv0 := sm_nn (f := fun j => sq (σ 1) j (prt q j)) (n := k) (fun j a b => (rngs j a (by omega)).1)
      have hpk := fun z : k < 3 => hp k h1.1 (by omega)
      have hrk := fun z : k < 3 => rngs k h1.1 z
      have hsk := fun z : k < 3 => hs k (prt q k) h1.1 z (hpk z).1 (hpk z).2
      refine wp_iload hC dX9_leftAt_5 rfl ?_
      refine wp_iconst hC dX9_leftAt_7 ?_
      refine wp_icmp_ge (tgt := 37) hC dX9_leftAt_8 (by decide) (by omega) (by omega) (fun c_8 => ?_) (fun c_8 => ?_)
      · refine wp_iconst hC dX9_leftAt_37 ?_
        refine wp_istore (lv2 := [(0, _), (1, _), (2, _), (3, _), (4, _)]) hC dX9_leftAt_38 rfl (by decide) ?_
        exact L40 _ _ _ rfl (by omega) (by rw [h2, show k = 3 by omega]; unfold dm; rw [sm_0, Int.sub_zero])
      · refine wp_iload_n hC dX9_leftAt_11 rfl ?_
        refine wp_aload_n hC dX9_leftAt_12 rfl ?_
        refine wp_geta (k := 16) hC (rfl) (by decide) (rfl) (rfl) (by decide) uX9_leftAt_X9 fX9_leftAt_46 (rfl) dX9_leftAt_13 ?_
        refine wp_bipush hC dX9_leftAt_16 rfl ?_
        refine wp_iload hC dX9_leftAt_18 rfl ?_
        refine wp_imul hC dX9_leftAt_20 ?_
        refine wp_iload_n hC dX9_leftAt_21 rfl ?_
        refine wp_iload hC dX9_leftAt_22 rfl ?_
        refine wp_callSe (As := [_, _]) hC (c_X9_partOf hG _ (by omega) (by omega)) gX9_leftAt_X9_partOf rfl ⟨rfl, rfl⟩ ⟨by decide, by decide⟩ hySX9_partOf rfl (Nat.le_of_ble_eq_true rfl) dX9_leftAt_24 (fun hx_24 => ?_)
        refine wp_iadd hC dX9_leftAt_27 ?_
        refine wp_iald (n := 39) hC (rfl) (Nat.le_of_ble_eq_true rfl) (rfl) (by decide) (by omega) dX9_leftAt_28 ?_
        refine wp_iadd hC dX9_leftAt_29 ?_
        refine wp_istore_n (lv2 := [(0, _), (1, _), (2, _), (3, _), (4, _)]) hC dX9_leftAt_30 rfl (by decide) ?_
        refine wp_iinc (lv2 := [(0, _), (1, _), (2, _), (3, _), (4, _)]) hC dX9_leftAt_31 rfl rfl (by decide) ?_
        refine wp_goto (tgt := 5) hC dX9_leftAt_34 (by decide) ?_
        exact ih _ (by omega) _ _ rfl (by omega) (by rw [sm_s h1.1, ← h2, hsk c_8])
  refine wp_iconst hC dX9_leftAt_0 ?_
  refine wp_istore_n (lv2 := [(0, _), (1, _), (2, _), (3, _)]) hC dX9_leftAt_1 rfl (by decide) ?_
  refine wp_iconst hC dX9_leftAt_2 ?_
  refine wp_istore (lv2 := [(0, _), (1, _), (2, _), (3, _), (4, _)]) hC dX9_leftAt_3 rfl (by decide) ?_
  exact L5 _ _ _ rfl (by omega) rfl

/-- what findLeast(B) leaves: the least, the step, the sums -/
def FLP (σ : St) (B : Int) (σ2 : St) : Prop := ∃ k0 τ, fst (LK σ (tb B)) 2197 k0 ∧ σ2 = S1 σ τ ∧ τ 0 15 = LK σ (tb B) k0 ∧ τ 0 14 = stp k0 ∧ ∀ i q, 0 ≤ i → i < 3 → 0 ≤ q → q ≤ 12 → τ 11 (13 * i + q) = sq (σ 1) i q
theorem FLP_met {σ σ2 : St} {B : Int} (h : FLP σ B σ2) : 0 ≤ σ2 0 15 ↔ MET σ (tb B) := by
  obtain ⟨k0, τ, h1, rfl, h2, -, -⟩ := h
  show 0 ≤ τ 0 15 ↔ _
  rw [h2]
  exact ⟨fun z k a b => Int.le_trans z (h1.2.2.1 k a b), fun z => z k0 h1.1 h1.2.1⟩
theorem fst_0 {L : Int → Int} : fst L 1 0 := ⟨by omega, by omega, fun k a b => by rw [show k = 0 by omega]; exact Int.le_refl _, fun k a b => by omega⟩
theorem fst_lt {L : Int → Int} {n k0 : Int} (h : fst L n k0) (h2 : L n < L k0) : fst L (n + 1) n := by
  obtain ⟨a1, a2, a3, a4⟩ := h
  refine ⟨by omega, by omega, fun k x y => ?_, fun k x y => ?_⟩
  · rcases Int.lt_or_le k n with z | z
    · have := a3 k x z; omega
    · rw [show k = n by omega]; exact Int.le_refl _
  · have := a3 k x y; omega
theorem fst_ge {L : Int → Int} {n k0 : Int} (h : fst L n k0) (h2 : L k0 ≤ L n) : fst L (n + 1) k0 := by
  obtain ⟨a1, a2, a3, a4⟩ := h
  refine ⟨a1, by omega, fun k x y => ?_, a4⟩
  rcases Int.lt_or_le k n with z | z
  · exact a3 k x z
  · rw [show k = n by omega]; exact h2

theorem hyVX9_findLeast : yX9_findLeast.cls = RX9 ∧ yX9_findLeast.cls ≠ "java/lang/invoke/MethodHandle" ∧ yX9_findLeast.cls ≠ "java/lang/invoke/VarHandle" ∧ (parseMethodDescriptor yX9_findLeast.desc).map (fun d => d.parameters.length) = some 1 := by decide +kernel
theorem uX9_findLeast_X9 : ∀ w ∈ u_ws RX9 TX9 35, w ∈ wsX9_findLeast := by decide +kernel
theorem fX9_findLeast_147 : Cond.fieldLink RX9 147 (TX9 15).1 (TX9 15).2.1 (TX9 15).2.2.1 ∈ wsX9_findLeast := by decide +kernel
theorem fX9_findLeast_156 : Cond.fieldLink RX9 156 (TX9 14).1 (TX9 14).2.1 (TX9 14).2.2.1 ∈ wsX9_findLeast := by decide +kernel
set_option maxHeartbeats 4000000 in
set_option maxRecDepth 100000 in
theorem c_X9_findLeast {l : Launch} {G : Gy} (hG : Inj G) (σ : St) {B : Int} (h : RO σ) (hB : 0 ≤ B ∧ B ≤ 2147483647) : MV l yX9_findLeast wsX9_findLeast ({ frames := 3, cells := 0, slots := 0, locals := 69 } : Room) G [.ref (G.2.2 0), .int (zI (B))] σ (FLP σ B) := by
  refine MV.of hG (by decide +kernel) rfl rfl (Nat.le_of_ble_eq_true rfl) rfl ?_
  intro p e s m args below meth c H0 Q hC hret
  have L12 : ∀ (n : Nat) (k : Int) (τ : St), ((2197 - k).toNat) = n → (0 ≤ k ∧ k ≤ 2197) → (∀ i q, 0 ≤ i → i < 3 → 0 ≤ q → q ≤ 12 → τ 11 (13 * i + q) = sq (σ 1) i q) → ((k = 0 ∧ τ 0 15 = 2147483647) ∨ ∃ k0, fst (LK σ (tb B)) k k0 ∧ τ 0 15 = LK σ (tb B) k0 ∧ τ 0 14 = stp k0) → wp p l e ({ frames := 3, cells := 0, slots := 0, locals := 69 } : Room) s m args below meth c (aA G (Array.size H0)) H0 4 Q G (S1 σ τ) 12 [(0, .ref (G.2.2 0)), (1, .int (zI (B))), (2, .int (zI (k)))] [] := by
    intro n12
    induction n12 using Nat.strongRecOn with
    | ind n12 ih =>
      intro k τ hm12 h1 h2 h3
      have hL := fun z : k < 2197 => LK_rng h (tb B) h1.1 z
      have ht : iR (τ 0 15) := by
        rcases h3 with ⟨_, z⟩ | ⟨k0, z1, z2, _⟩
        · rw [z]; omega
        · have := LK_rng h (tb B) z1.1 (by have := z1.2.1; omega)
          rw [z2]; omega
      have hst := fun z : k < 2197 => prt_stp h1.1 z
      have hsr := fun z : k < 2197 => show 0 ≤ stp k ∧ stp k ≤ 121212 by unfold stp; omega
      refine wp_iload_n hC dX9_findLeast_12 rfl ?_
      refine wp_sipush hC dX9_findLeast_13 rfl ?_
      refine wp_icmp_ge (tgt := 59) hC dX9_findLeast_16 (by decide) (by omega) (by omega) (fun c_16 => ?_) (fun c_16 => ?_)
      · exact hret _ _ _ (by
          rcases h3 with ⟨z1, _⟩ | ⟨k0, z1, z2, z3⟩
          · omega
          · exact ⟨k0, τ, by rw [show k = 2197 by omega] at z1; exact z1, rfl, z2, z3, h2⟩) dX9_findLeast_59
      · refine wp_aload_n hC dX9_findLeast_19 rfl ?_
        refine wp_iload_n hC dX9_findLeast_20 rfl ?_
        refine wp_callSe (As := [_]) hC (c_X9_step hG _ (by omega)) gX9_findLeast_X9_step rfl ⟨rfl, rfl⟩ ⟨by decide, by decide⟩ hySX9_step rfl (Nat.le_of_ble_eq_true rfl) dX9_findLeast_21 (fun hx_21 => ?_)
        refine wp_iload_n hC dX9_findLeast_24 rfl ?_
        refine wp_callVe (As := [_, _]) hC (c_X9_leftAt hG (S1 σ τ) h (fun i q a b c d => h2 i q a b c d) (by omega) (by have := hsr c_16; omega) (fun i a b => by
            have e := hst c_16
            rcases (show i = 0 ∨ i = 1 ∨ i = 2 by omega) with rfl | rfl | rfl
            · rw [e.1]; omega
            · rw [e.2.1]; omega
            · rw [e.2.2]; omega)) gX9_findLeast_X9_leftAt rfl ⟨rfl, rfl⟩ ⟨by decide, by decide⟩ hyVX9_leftAt (rfl) (by decide) (rfl) rfl (Nat.le_of_ble_eq_true rfl) dX9_findLeast_25 (fun hx_25 => ?_)
        refine wp_top (b := LK σ (tb B) k) (by rw [(hst c_16).1, (hst c_16).2.1, (hst c_16).2.2]; rfl) ?_
        have hLk := hL c_16
        refine wp_istore_n (lv2 := [(0, _), (1, _), (2, _), (3, _)]) hC dX9_findLeast_28 rfl (by decide) ?_
        refine wp_iload_n hC dX9_findLeast_29 rfl ?_
        refine wp_aload_n hC dX9_findLeast_30 rfl ?_
        refine wp_geti (k := 15) (z := 15) hC rfl (rfl) (by decide) (rfl) (rfl) (by decide) uX9_findLeast_X9 fX9_findLeast_147 (rfl) dX9_findLeast_31 ?_
        refine wp_top (b := τ 0 15) rfl ?_
        refine wp_icmp_lt (tgt := 40) hC dX9_findLeast_34 (by decide) (by omega) (by omega) (fun c_34 => ?_) (fun c_34 => ?_)
        · refine wp_aload_n hC dX9_findLeast_40 rfl ?_
          refine wp_iload_n hC dX9_findLeast_41 rfl ?_
          refine wp_puti2 (k := 15) (z := 15) hC rfl (rfl) (by decide) (rfl) (rfl) (by decide) uX9_findLeast_X9 fX9_findLeast_147 tyX9 tyX9_ok nmX9 rfl rfl (rfl) dX9_findLeast_42 ?_
          refine wp_aload_n hC dX9_findLeast_45 rfl ?_
          refine wp_iload_n hC dX9_findLeast_46 rfl ?_
          refine wp_callSe (As := [_]) hC (c_X9_step hG _ (by omega)) gX9_findLeast_X9_step rfl ⟨rfl, rfl⟩ ⟨by decide, by decide⟩ hySX9_step rfl (Nat.le_of_ble_eq_true rfl) dX9_findLeast_47 (fun hx_47 => ?_)
          refine wp_puti2 (k := 14) (z := 14) hC rfl (rfl) (by decide) (rfl) (rfl) (by decide) uX9_findLeast_X9 fX9_findLeast_156 tyX9 tyX9_ok nmX9 rfl rfl (rfl) dX9_findLeast_50 ?_
          refine wp_iinc (lv2 := [(0, _), (1, _), (2, _), (3, _)]) hC dX9_findLeast_53 rfl rfl (by decide) ?_
          refine wp_goto (tgt := 12) hC dX9_findLeast_56 (by decide) ?_
          refine wp_lv hC [0, 1, 2] rfl ?_
          refine wp_st (σ2 := S1 σ (put (put τ 0 15 (LK σ (tb B) k)) 0 14 (stp k))) (by rw [S1_put rfl, S1_put rfl]) ?_
          exact ih _ (by clear h3; omega) _ _ rfl (by clear h3; omega) (fun i q a b c d => h2 i q a b c d) (by
            refine Or.inr ⟨k, ?_, rfl, rfl⟩
            rcases h3 with ⟨z1, z2⟩ | ⟨k0, z1, z2, z3⟩
            · subst z1; exact fst_0
            · exact fst_lt z1 (by omega))
        · refine wp_goto (tgt := 53) hC dX9_findLeast_37 (by decide) ?_
          refine wp_iinc (lv2 := [(0, _), (1, _), (2, _), (3, _)]) hC dX9_findLeast_53 rfl rfl (by decide) ?_
          refine wp_goto (tgt := 12) hC dX9_findLeast_56 (by decide) ?_
          refine wp_lv hC [0, 1, 2] rfl ?_
          exact ih _ (by clear h3; omega) _ _ rfl (by clear h3; omega) h2 (by
            rcases h3 with ⟨z1, z2⟩ | ⟨k0, z1, z2, z3⟩
            · have := hL c_16; omega
            · exact Or.inr ⟨k0, fst_ge z1 (by omega), z2, z3⟩)
  refine wp_aload_n hC dX9_findLeast_0 rfl ?_
  refine wp_callVu (As := []) hC (c_X9_findSums hG _ h.2.1.1) gX9_findLeast_X9_findSums rfl ⟨rfl, rfl⟩ ⟨by decide, by decide⟩ hyVX9_findSums (rfl) (by decide) (rfl) rfl (Nat.le_of_ble_eq_true rfl) dX9_findLeast_1 ?_
  refine wp_aload_n hC dX9_findLeast_4 rfl ?_
  refine wp_ldc (n := 2147483647) hC dX9_findLeast_5 (by decide +kernel) ?_
  refine wp_puti2 (k := 15) (z := 15) hC rfl (rfl) (by decide) (rfl) (rfl) (by decide) uX9_findLeast_X9 fX9_findLeast_147 tyX9 tyX9_ok nmX9 rfl rfl (rfl) dX9_findLeast_7 ?_
  refine wp_iconst hC dX9_findLeast_10 ?_
  refine wp_istore_n (lv2 := [(0, _), (1, _), (2, _)]) hC dX9_findLeast_11 rfl (by decide) ?_
  refine wp_st (σ2 := S1 σ (put (FSk σ 39) 0 15 2147483647)) (S1_putS FSk_S1 rfl) ?_
  exact L12 _ _ _ rfl (by omega) (fun i q a b c d => FSk_SUMS i q a b c d) (Or.inl ⟨rfl, rfl⟩)

theorem hyVX9_isMet : yX9_isMet.cls = RX9 ∧ yX9_isMet.cls ≠ "java/lang/invoke/MethodHandle" ∧ yX9_isMet.cls ≠ "java/lang/invoke/VarHandle" ∧ (parseMethodDescriptor yX9_isMet.desc).map (fun d => d.parameters.length) = some 1 := by decide +kernel
theorem uX9_isMet_X9 : ∀ w ∈ u_ws RX9 TX9 35, w ∈ wsX9_isMet := by decide +kernel
theorem fX9_isMet_147 : Cond.fieldLink RX9 147 (TX9 15).1 (TX9 15).2.1 (TX9 15).2.2.1 ∈ wsX9_isMet := by decide +kernel
set_option maxHeartbeats 4000000 in
set_option maxRecDepth 100000 in
theorem c_X9_isMet {l : Launch} {G : Gy} (hG : Inj G) (σ : St) {B : Int} (h : RO σ) (hB : 0 ≤ B ∧ B ≤ 2147483647) : MI l yX9_isMet wsX9_isMet ({ frames := 4, cells := 0, slots := 0, locals := 92 } : Room) G [.ref (G.2.2 0), .int (zI (B))] σ (fun x σ2 => bP x (MET σ (tb B)) ∧ FLP σ B σ2) := by
  refine MI.of hG (by decide +kernel) rfl rfl (Nat.le_of_ble_eq_true rfl) rfl ?_
  intro p e s m args below meth c H0 Q hC hret
  refine wp_aload_n hC dX9_isMet_0 rfl ?_
  refine wp_iload_n hC dX9_isMet_1 rfl ?_
  refine wp_callVv (As := [_]) hC (c_X9_findLeast hG _ (by assumption) (by omega)) gX9_isMet_X9_findLeast rfl ⟨rfl, rfl⟩ ⟨by decide, by decide⟩ hyVX9_findLeast (rfl) (by decide) (rfl) rfl (Nat.le_of_ble_eq_true rfl) dX9_isMet_2 (fun s_2 hp_2 => ?_)
  have hr_2 : iR (s_2 0 15) := by
    obtain ⟨k0, τ, z1, rfl, z2, -, -⟩ := hp_2
    show iR (τ 0 15)
    have := LK_rng h (tb B) z1.1 z1.2.1
    rw [z2]; omega
  have hm_2 := FLP_met hp_2
  refine wp_aload_n hC dX9_isMet_5 rfl ?_
  refine wp_geti (k := 15) (z := 15) hC rfl (rfl) (by decide) (rfl) (rfl) (by decide) uX9_isMet_X9 fX9_isMet_147 (rfl) dX9_isMet_6 ?_
  refine wp_if_lt (tgt := 16) hC dX9_isMet_9 (by decide) (by omega) (fun c_9 => ?_) (fun c_9 => ?_)
  · refine wp_iconst hC dX9_isMet_16 ?_
    exact hret _ _ _ _ (by omega) rfl (⟨Or.inr ⟨rfl, fun z => by have := hm_2.mpr z; omega⟩, hp_2⟩) dX9_isMet_17
  · refine wp_iconst hC dX9_isMet_12 ?_
    refine wp_goto (tgt := 17) hC dX9_isMet_13 (by decide) ?_
    exact hret _ _ _ _ (by omega) rfl (⟨Or.inl ⟨rfl, hm_2.mp (by omega)⟩, hp_2⟩) dX9_isMet_17

theorem RO_S1 {σ τ : St} (h : RO σ) : RO (S1 σ τ) := h
theorem FLP_S1 {σ σ2 : St} {B : Int} (h : FLP σ B σ2) : ∃ τ, σ2 = S1 σ τ := by
  obtain ⟨k0, τ, -, h, -⟩ := h
  exact ⟨τ, h⟩
/-- an order can be promised besides others: the share suffices, all can be met -/
def CAN (σ : St) (o : Int) (B : Int) : Prop := amS (σ 0 5) (σ 2) (σ 4) (tb B) (σ 4 o) ≤ σ 1 (36 + σ 4 o) * sm (σ 1) 36 / 100 ∧ MET σ (tb B)

theorem hyVX9_canBe : yX9_canBe.cls = RX9 ∧ yX9_canBe.cls ≠ "java/lang/invoke/MethodHandle" ∧ yX9_canBe.cls ≠ "java/lang/invoke/VarHandle" ∧ (parseMethodDescriptor yX9_canBe.desc).map (fun d => d.parameters.length) = some 2 := by decide +kernel
theorem uX9_canBe_X9 : ∀ w ∈ u_ws RX9 TX9 35, w ∈ wsX9_canBe := by decide +kernel
theorem fX9_canBe_19 : Cond.fieldLink RX9 19 (TX9 3).1 (TX9 3).2.1 (TX9 3).2.2.1 ∈ wsX9_canBe := by decide +kernel
set_option maxHeartbeats 4000000 in
set_option maxRecDepth 100000 in
theorem c_X9_canBe {l : Launch} {G : Gy} (hG : Inj G) (σ : St) {o B : Int} (h : RO σ) (ho : 0 ≤ o ∧ o < 24) (hB : 0 ≤ B ∧ B ≤ 2147483647) : MI l yX9_canBe wsX9_canBe ({ frames := 5, cells := 0, slots := 0, locals := 113 } : Room) G [.ref (G.2.2 0), .int (zI (o)), .int (zI (B))] σ (fun x σ2 => bP x (CAN σ o (ior B (pw o))) ∧ ∃ τ, σ2 = S1 σ τ) := by
  refine MI.of hG (by decide +kernel) rfl rfl (Nat.le_of_ble_eq_true rfl) rfl ?_
  intro p e s m args below meth c H0 Q hC hret
  have hp0 := pw_pos o
  have hp1 : pw o ≤ pw 24 := pw_le (by omega)
  have h24 : pw 24 = 16777216 := by decide
  have hb := ior_nn (a := B) (b := pw o) (by omega) (by omega)
  have hg := h.2.2.2.2.1 o ho.1 ho.2
  have hsm := sm_ub (f := σ 1) (n := 36) (c := 99) (by decide) (fun j a b => (h.2.1.1 j a (by omega)).2)
  have hsm0 := sm_nn (f := σ 1) (n := 36) (fun j a b => (h.2.1.1 j a (by omega)).1)
  have hsh := h.2.1.2.1 (36 + σ 4 o) (by omega) (by omega)
  have hm0 : 0 ≤ σ 1 (36 + σ 4 o) * sm (σ 1) 36 := Int.mul_nonneg hsh.1 hsm0
  have hm1 : σ 1 (36 + σ 4 o) * sm (σ 1) 36 ≤ 100 * 3564 := Int.mul_le_mul hsh.2 (by omega) hsm0 (by decide)
  have ham := amS_rng (n := σ 0 5) (am := σ 2) (gr := σ 4) (P := tb (ior B (pw o))) (g := σ 4 o) h.1.1 (fun q a b => h.2.2.1 q a (by have := h.1; omega))
  have hn := h.1
  refine wp_iload_n hC dX9_canBe_0 rfl ?_
  refine wp_iconst hC dX9_canBe_1 ?_
  refine wp_iload_n hC dX9_canBe_2 rfl ?_
  refine wp_ishl hC dX9_canBe_3 ?_
  refine wp_top (b := pw o) (ishl_1 (by omega) (by omega)) ?_
  refine wp_ior hC dX9_canBe_4 ?_
  refine wp_istore_n (lv2 := [(0, _), (1, _), (2, _), (3, _)]) hC dX9_canBe_5 rfl (by decide) ?_
  refine wp_aload_n hC dX9_canBe_6 rfl ?_
  refine wp_iload_n hC dX9_canBe_7 rfl ?_
  refine wp_aload_n hC dX9_canBe_8 rfl ?_
  refine wp_geta (k := 3) hC (rfl) (by decide) (rfl) (rfl) (by decide) uX9_canBe_X9 fX9_canBe_19 (rfl) dX9_canBe_9 ?_
  refine wp_iload_n hC dX9_canBe_12 rfl ?_
  refine wp_iald (n := 24) hC (rfl) (Nat.le_of_ble_eq_true rfl) (rfl) (by decide) (by omega) dX9_canBe_13 ?_
  refine wp_callVe (As := [_, _]) hC (c_X9_amountsOf hG _ (by omega) (by omega) h.1 h.2.2.1 h.2.2.2.2.1) gX9_canBe_X9_amountsOf rfl ⟨rfl, rfl⟩ ⟨by decide, by decide⟩ hyVX9_amountsOf (rfl) (by decide) (rfl) rfl (Nat.le_of_ble_eq_true rfl) dX9_canBe_14 (fun hx_14 => ?_)
  refine wp_aload_n hC dX9_canBe_17 rfl ?_
  refine wp_aload_n hC dX9_canBe_18 rfl ?_
  refine wp_geta (k := 3) hC (rfl) (by decide) (rfl) (rfl) (by decide) uX9_canBe_X9 fX9_canBe_19 (rfl) dX9_canBe_19 ?_
  refine wp_iload_n hC dX9_canBe_22 rfl ?_
  refine wp_iald (n := 24) hC (rfl) (Nat.le_of_ble_eq_true rfl) (rfl) (by decide) (by omega) dX9_canBe_23 ?_
  refine wp_callVe (As := [_]) hC (c_X9_shareOf hG _ (by omega) h.2.1) gX9_canBe_X9_shareOf rfl ⟨rfl, rfl⟩ ⟨by decide, by decide⟩ hyVX9_shareOf (rfl) (by decide) (rfl) rfl (Nat.le_of_ble_eq_true rfl) dX9_canBe_24 (fun hx_24 => ?_)
  refine wp_icmp_gt (tgt := 42) hC dX9_canBe_27 (by decide) (by omega) (by omega) (fun c_27 => ?_) (fun c_27 => ?_)
  · refine wp_iconst hC dX9_canBe_42 ?_
    exact hret _ _ _ _ (by omega) rfl (⟨Or.inr ⟨rfl, fun z => by have := z.1; omega⟩, σ, (S1_self σ).symm⟩) dX9_canBe_43
  · refine wp_aload_n hC dX9_canBe_30 rfl ?_
    refine wp_iload_n hC dX9_canBe_31 rfl ?_
    refine wp_callVi (As := [_]) hC (c_X9_isMet hG _ (by assumption) (by omega)) gX9_canBe_X9_isMet rfl ⟨rfl, rfl⟩ ⟨by decide, by decide⟩ hyVX9_isMet (rfl) (by decide) (rfl) rfl (Nat.le_of_ble_eq_true rfl) dX9_canBe_32 (fun x_32 s_32 hx_32 hp_32 => ?_)
    refine wp_if_eq (tgt := 42) hC dX9_canBe_35 (by decide) (bP_iR hp_32.1) (fun c_35 => ?_) (fun c_35 => ?_)
    · refine wp_iconst hC dX9_canBe_42 ?_
      exact hret _ _ _ _ (by omega) rfl (⟨Or.inr ⟨rfl, fun z => bP_0 hp_32.1 c_35 z.2⟩, FLP_S1 hp_32.2⟩) dX9_canBe_43
    · refine wp_iconst hC dX9_canBe_38 ?_
      refine wp_goto (tgt := 43) hC dX9_canBe_39 (by decide) ?_
      exact hret _ _ _ _ (by omega) rfl (⟨Or.inl ⟨rfl, by omega, bP_1 hp_32.1 c_35⟩, FLP_S1 hp_32.2⟩) dX9_canBe_43
