theorem hySX9_isIn : yX9_isIn.cls ≠ "java/lang/invoke/MethodHandle" ∧ yX9_isIn.cls ≠ "java/lang/invoke/VarHandle" ∧ (parseMethodDescriptor yX9_isIn.desc).map (fun d => d.parameters.length) = some 3 := by decide +kernel
set_option maxHeartbeats 4000000 in
set_option maxRecDepth 100000 in
theorem c_X9_isIn {l : Launch} {G : Gy} (hG : Inj G) (σ : St) {v a b : Int} (hv : iR v) (ha : iR a) (hb : iR b) : MB l yX9_isIn wsX9_isIn ({ frames := 0, cells := 0, slots := 0, locals := 0 } : Room) G [.int (zI (v)), .int (zI (a)), .int (zI (b))] σ (a ≤ v ∧ v ≤ b) σ := by
  refine MI.of hG (by decide +kernel) rfl rfl (Nat.le_of_ble_eq_true rfl) rfl ?_
  intro p e s m args below meth c H0 Q hC hret
  refine wp_iload_n hC dX9_isIn_0 rfl ?_
  refine wp_iload_n hC dX9_isIn_1 rfl ?_
  refine wp_icmp_lt (tgt := 14) hC dX9_isIn_2 (by decide) (by omega) (by omega) (fun c_2 => ?_) (fun c_2 => ?_)
  · refine wp_iconst hC dX9_isIn_14 ?_
    exact hret _ _ _ _ (by omega) rfl (⟨bI0 (by omega), rfl⟩) dX9_isIn_15
  · refine wp_iload_n hC dX9_isIn_5 rfl ?_
    refine wp_iload_n hC dX9_isIn_6 rfl ?_
    refine wp_icmp_gt (tgt := 14) hC dX9_isIn_7 (by decide) (by omega) (by omega) (fun c_7 => ?_) (fun c_7 => ?_)
    · refine wp_iconst hC dX9_isIn_14 ?_
      exact hret _ _ _ _ (by omega) rfl (⟨bI0 (by omega), rfl⟩) dX9_isIn_15
    · refine wp_iconst hC dX9_isIn_10 ?_
      refine wp_goto (tgt := 15) hC dX9_isIn_11 (by decide) ?_
      exact hret _ _ _ _ (by omega) rfl (⟨bI1 (by omega), rfl⟩) dX9_isIn_15

theorem hyVX9_isOrder : yX9_isOrder.cls = RX9 ∧ yX9_isOrder.cls ≠ "java/lang/invoke/MethodHandle" ∧ yX9_isOrder.cls ≠ "java/lang/invoke/VarHandle" ∧ (parseMethodDescriptor yX9_isOrder.desc).map (fun d => d.parameters.length) = some 1 := by decide +kernel
theorem uX9_isOrder_X9 : ∀ w ∈ u_ws RX9 TX9 35, w ∈ wsX9_isOrder := by decide +kernel
theorem fX9_isOrder_80 : Cond.fieldLink RX9 80 (TX9 5).1 (TX9 5).2.1 (TX9 5).2.2.1 ∈ wsX9_isOrder := by decide +kernel
set_option maxHeartbeats 4000000 in
set_option maxRecDepth 100000 in
theorem c_X9_isOrder {l : Launch} {G : Gy} (hG : Inj G) (σ : St) {o : Int} (ho : iR o) (hn : 0 ≤ σ 0 5 ∧ σ 0 5 ≤ 24) : MB l yX9_isOrder wsX9_isOrder ({ frames := 1, cells := 0, slots := 0, locals := 22 } : Room) G [.ref (G.2.2 0), .int (zI (o))] σ (0 ≤ o ∧ o < σ 0 5) σ := by
  refine MI.of hG (by decide +kernel) rfl rfl (Nat.le_of_ble_eq_true rfl) rfl ?_
  intro p e s m args below meth c H0 Q hC hret
  refine wp_iload_n hC dX9_isOrder_0 rfl ?_
  refine wp_iconst hC dX9_isOrder_1 ?_
  refine wp_aload_n hC dX9_isOrder_2 rfl ?_
  refine wp_geti (k := 5) (z := 5) hC rfl (rfl) (by decide) (rfl) (rfl) (by decide) uX9_isOrder_X9 fX9_isOrder_80 (rfl) dX9_isOrder_3 ?_
  refine wp_iconst hC dX9_isOrder_6 ?_
  refine wp_isub hC dX9_isOrder_7 ?_
  refine wp_callSb (As := [_, _, _]) hC (c_X9_isIn hG _ (by omega) (by omega) (by omega)) gX9_isOrder_X9_isIn rfl ⟨rfl, rfl⟩ ⟨by decide, by decide⟩ hySX9_isIn rfl (Nat.le_of_ble_eq_true rfl) dX9_isOrder_8 (fun hx_8 => ?_)
  exact hret _ _ _ _ (iR_bI) bI_nar (⟨bI_c (by omega), rfl⟩) dX9_isOrder_11

theorem hySX9_isSupply : yX9_isSupply.cls ≠ "java/lang/invoke/MethodHandle" ∧ yX9_isSupply.cls ≠ "java/lang/invoke/VarHandle" ∧ (parseMethodDescriptor yX9_isSupply.desc).map (fun d => d.parameters.length) = some 2 := by decide +kernel
set_option maxHeartbeats 4000000 in
set_option maxRecDepth 100000 in
theorem c_X9_isSupply {l : Launch} {G : Gy} (hG : Inj G) (σ : St) {i p : Int} (hi : iR i) (hp : iR p) : MB l yX9_isSupply wsX9_isSupply ({ frames := 1, cells := 0, slots := 0, locals := 22 } : Room) G [.int (zI (i)), .int (zI (p))] σ ((0 ≤ i ∧ i ≤ 2) ∧ (0 ≤ p ∧ p ≤ 11)) σ := by
  refine MI.of hG (by decide +kernel) rfl rfl (Nat.le_of_ble_eq_true rfl) rfl ?_
  intro p e s m args below meth c H0 Q hC hret
  refine wp_iload_n hC dX9_isSupply_0 rfl ?_
  refine wp_iconst hC dX9_isSupply_1 ?_
  refine wp_iconst hC dX9_isSupply_2 ?_
  refine wp_callSb (As := [_, _, _]) hC (c_X9_isIn hG _ (by omega) (by omega) (by omega)) gX9_isSupply_X9_isIn rfl ⟨rfl, rfl⟩ ⟨by decide, by decide⟩ hySX9_isIn rfl (Nat.le_of_ble_eq_true rfl) dX9_isSupply_3 (fun hx_3 => ?_)
  refine wp_ifb_eq (tgt := 23) hC dX9_isSupply_6 (by decide) (fun c_6 => ?_) (fun c_6 => ?_)
  · refine wp_iconst hC dX9_isSupply_23 ?_
    exact hret _ _ _ _ (by omega) rfl (⟨bI0 (by omega), rfl⟩) dX9_isSupply_24
  · refine wp_iload_n hC dX9_isSupply_9 rfl ?_
    refine wp_iconst hC dX9_isSupply_10 ?_
    refine wp_bipush hC dX9_isSupply_11 rfl ?_
    refine wp_callSb (As := [_, _, _]) hC (c_X9_isIn hG _ (by omega) (by omega) (by omega)) gX9_isSupply_X9_isIn rfl ⟨rfl, rfl⟩ ⟨by decide, by decide⟩ hySX9_isIn rfl (Nat.le_of_ble_eq_true rfl) dX9_isSupply_13 (fun hx_13 => ?_)
    refine wp_ifb_eq (tgt := 23) hC dX9_isSupply_16 (by decide) (fun c_16 => ?_) (fun c_16 => ?_)
    · refine wp_iconst hC dX9_isSupply_23 ?_
      exact hret _ _ _ _ (by omega) rfl (⟨bI0 (by omega), rfl⟩) dX9_isSupply_24
    · refine wp_iconst hC dX9_isSupply_19 ?_
      refine wp_goto (tgt := 24) hC dX9_isSupply_20 (by decide) ?_
      exact hret _ _ _ _ (by omega) rfl (⟨bI1 (by omega), rfl⟩) dX9_isSupply_24

theorem hySX9_at : yX9_at.cls ≠ "java/lang/invoke/MethodHandle" ∧ yX9_at.cls ≠ "java/lang/invoke/VarHandle" ∧ (parseMethodDescriptor yX9_at.desc).map (fun d => d.parameters.length) = some 2 := by decide +kernel
set_option maxHeartbeats 4000000 in
set_option maxRecDepth 100000 in
theorem c_X9_at {l : Launch} {G : Gy} (hG : Inj G) (σ : St) {i p : Int} (hi : 0 ≤ i ∧ i ≤ 100) (hp : 0 ≤ p ∧ p ≤ 100) : ME l yX9_at wsX9_at ({ frames := 0, cells := 0, slots := 0, locals := 0 } : Room) G [.int (zI (i)), .int (zI (p))] σ (12 * i + p) σ := by
  refine MI.of hG (by decide +kernel) rfl rfl (Nat.le_of_ble_eq_true rfl) rfl ?_
  intro p e s m args below meth c H0 Q hC hret
  refine wp_iconst hC dX9_at_0 ?_
  refine wp_bipush hC dX9_at_1 rfl ?_
  refine wp_iload_n hC dX9_at_3 rfl ?_
  refine wp_imul hC dX9_at_4 ?_
  refine wp_iadd hC dX9_at_5 ?_
  refine wp_iload_n hC dX9_at_6 rfl ?_
  refine wp_iadd hC dX9_at_7 ?_
  exact hret _ _ _ _ (by omega) rfl (⟨by omega, rfl⟩) dX9_at_8

theorem hyVX9_isWhat : yX9_isWhat.cls = RX9 ∧ yX9_isWhat.cls ≠ "java/lang/invoke/MethodHandle" ∧ yX9_isWhat.cls ≠ "java/lang/invoke/VarHandle" ∧ (parseMethodDescriptor yX9_isWhat.desc).map (fun d => d.parameters.length) = some 2 := by decide +kernel
theorem uX9_isWhat_X9 : ∀ w ∈ u_ws RX9 TX9 35, w ∈ wsX9_isWhat := by decide +kernel
theorem fX9_isWhat_9 : Cond.fieldLink RX9 9 (TX9 0).1 (TX9 0).2.1 (TX9 0).2.2.1 ∈ wsX9_isWhat := by decide +kernel
set_option maxHeartbeats 4000000 in
set_option maxRecDepth 100000 in
theorem c_X9_isWhat {l : Launch} {G : Gy} (hG : Inj G) (σ : St) {o w : Int} (ho : 0 ≤ o ∧ o < 48) (hw : iR w) (hx : iR (σ 1 (40 + o))) : MB l yX9_isWhat wsX9_isWhat ({ frames := 0, cells := 0, slots := 0, locals := 0 } : Room) G [.ref (G.2.2 0), .int (zI (o)), .int (zI (w))] σ (σ 1 (40 + o) = w) σ := by
  refine MI.of hG (by decide +kernel) rfl rfl (Nat.le_of_ble_eq_true rfl) rfl ?_
  intro p e s m args below meth c H0 Q hC hret
  refine wp_aload_n hC dX9_isWhat_0 rfl ?_
  refine wp_geta (k := 0) hC (rfl) (by decide) (rfl) (rfl) (by decide) uX9_isWhat_X9 fX9_isWhat_9 (rfl) dX9_isWhat_1 ?_
  refine wp_bipush hC dX9_isWhat_4 rfl ?_
  refine wp_iload_n hC dX9_isWhat_6 rfl ?_
  refine wp_iadd hC dX9_isWhat_7 ?_
  refine wp_iald (n := 88) hC (rfl) (Nat.le_of_ble_eq_true rfl) (rfl) (by decide) (by omega) dX9_isWhat_8 ?_
  refine wp_iload_n hC dX9_isWhat_9 rfl ?_
  refine wp_icmp_ne (tgt := 17) hC dX9_isWhat_10 (by decide) (by omega) (by omega) (fun c_10 => ?_) (fun c_10 => ?_)
  · refine wp_iconst hC dX9_isWhat_17 ?_
    exact hret _ _ _ _ (by omega) rfl (⟨bI0 c_10, rfl⟩) dX9_isWhat_18
  · refine wp_iconst hC dX9_isWhat_13 ?_
    refine wp_goto (tgt := 18) hC dX9_isWhat_14 (by decide) ?_
    exact hret _ _ _ _ (by omega) rfl (⟨bI1 c_10, rfl⟩) dX9_isWhat_18

theorem hyVX9_those : yX9_those.cls = RX9 ∧ yX9_those.cls ≠ "java/lang/invoke/MethodHandle" ∧ yX9_those.cls ≠ "java/lang/invoke/VarHandle" ∧ (parseMethodDescriptor yX9_those.desc).map (fun d => d.parameters.length) = some 1 := by decide +kernel
theorem uX9_those_X9 : ∀ w ∈ u_ws RX9 TX9 35, w ∈ wsX9_those := by decide +kernel
theorem fX9_those_80 : Cond.fieldLink RX9 80 (TX9 5).1 (TX9 5).2.1 (TX9 5).2.2.1 ∈ wsX9_those := by decide +kernel
set_option maxHeartbeats 4000000 in
set_option maxRecDepth 100000 in
theorem c_X9_those {l : Launch} {G : Gy} (hG : Inj G) (σ : St) {w : Int} (hw : iR w) (hx : ∀ o, 0 ≤ o → o < 24 → iR (σ 1 (40 + o))) (hn : 0 ≤ σ 0 5 ∧ σ 0 5 ≤ 24) : ME l yX9_those wsX9_those ({ frames := 1, cells := 0, slots := 0, locals := 22 } : Room) G [.ref (G.2.2 0), .int (zI (w))] σ (bsum (fun o => decide (σ 1 (40 + o) = w)) (σ 0 5)) σ := by
  refine MI.of hG (by decide +kernel) rfl rfl (Nat.le_of_ble_eq_true rfl) rfl ?_
  intro p e s m args below meth c H0 Q hC hret
  have L4 : ∀ (n : Nat) (k b : Int), ((σ 0 5 - k).toNat) = n → (0 ≤ k ∧ k ≤ σ 0 5) → (b = bsum (fun o => decide (σ 1 (40 + o) = w)) k) → wp p l e ({ frames := 1, cells := 0, slots := 0, locals := 22 } : Room) s m args below meth c (aA G (Array.size H0)) H0 4 Q G σ 4 [(0, .ref (G.2.2 0)), (1, .int (zI (w))), (2, .int (zI (b))), (3, .int (zI (k)))] [] := by
    intro n4
    induction n4 using Nat.strongRecOn with
    | ind n4 ih =>
      intro k b hm4 h1 h2
      have hb := bs_rng (P := fun o => decide (σ 1 (40 + o) = w)) h1.1
      rw [← h2] at hb
      have hp : pw k ≤ pw 24 := pw_le (by omega)
      have h24 : pw 24 = 16777216 := by decide
      refine wp_iload_n hC dX9_those_4 rfl ?_
      refine wp_aload_n hC dX9_those_5 rfl ?_
      refine wp_geti (k := 5) (z := 5) hC rfl (rfl) (by decide) (rfl) (rfl) (by decide) uX9_those_X9 fX9_those_80 (rfl) dX9_those_6 ?_
      refine wp_icmp_ge (tgt := 37) hC dX9_those_9 (by decide) (by omega) (by omega) (fun c_9 => ?_) (fun c_9 => ?_)
      · refine wp_iload_n hC dX9_those_37 rfl ?_
        exact hret _ _ _ _ (by omega) rfl (⟨by rw [h2, show k = σ 0 5 by omega], rfl⟩) dX9_those_38
      · refine wp_iload_n hC dX9_those_12 rfl ?_
        refine wp_aload_n hC dX9_those_13 rfl ?_
        refine wp_iload_n hC dX9_those_14 rfl ?_
        refine wp_iload_n hC dX9_those_15 rfl ?_
        refine wp_callVb (As := [_, _]) hC (c_X9_isWhat hG _ (by omega) (by omega) (hx _ h1.1 (by omega))) gX9_those_X9_isWhat rfl ⟨rfl, rfl⟩ ⟨by decide, by decide⟩ hyVX9_isWhat (rfl) (by decide) (rfl) rfl (Nat.le_of_ble_eq_true rfl) dX9_those_16 (fun hx_16 => ?_)
        refine wp_ifb_eq (tgt := 28) hC dX9_those_19 (by decide) (fun c_19 => ?_) (fun c_19 => ?_)
        · refine wp_iconst hC dX9_those_28 ?_
          refine wp_ior hC dX9_those_29 ?_
          refine wp_istore_n (lv2 := [(0, _), (1, _), (2, _), (3, _)]) hC dX9_those_30 rfl (by decide) ?_
          refine wp_iinc (lv2 := [(0, _), (1, _), (2, _), (3, _)]) hC dX9_those_31 rfl rfl (by decide) ?_
          refine wp_goto (tgt := 4) hC dX9_those_34 (by decide) ?_
          exact ih _ (by omega) _ _ rfl (by omega) (by rw [bs_s h1.1, ← h2, if_neg (by simpa using c_19), Int.add_zero, ior_0 (by omega)])
        · refine wp_iconst hC dX9_those_22 ?_
          refine wp_iload_n hC dX9_those_23 rfl ?_
          refine wp_ishl hC dX9_those_24 ?_
          refine wp_goto (tgt := 29) hC dX9_those_25 (by decide) ?_
          refine wp_ior hC dX9_those_29 ?_
          refine wp_istore_n (lv2 := [(0, _), (1, _), (2, _), (3, _)]) hC dX9_those_30 rfl (by decide) ?_
          refine wp_iinc (lv2 := [(0, _), (1, _), (2, _), (3, _)]) hC dX9_those_31 rfl rfl (by decide) ?_
          refine wp_goto (tgt := 4) hC dX9_those_34 (by decide) ?_
          exact ih _ (by omega) _ _ rfl (by omega) (by rw [bs_s h1.1, ← h2, if_pos (by simpa using c_19), ishl_1 h1.1 (by omega), ior_pw hb.1 hb.2 h1.1 (by omega)])
  refine wp_iconst hC dX9_those_0 ?_
  refine wp_istore_n (lv2 := [(0, _), (1, _), (2, _)]) hC dX9_those_1 rfl (by decide) ?_
  refine wp_iconst hC dX9_those_2 ?_
  refine wp_istore_n (lv2 := [(0, _), (1, _), (2, _), (3, _)]) hC dX9_those_3 rfl (by decide) ?_
  exact L4 _ _ _ rfl (by omega) rfl

theorem hySX9_size : yX9_size.cls ≠ "java/lang/invoke/MethodHandle" ∧ yX9_size.cls ≠ "java/lang/invoke/VarHandle" ∧ (parseMethodDescriptor yX9_size.desc).map (fun d => d.parameters.length) = some 1 := by decide +kernel
set_option maxHeartbeats 4000000 in
set_option maxRecDepth 100000 in
theorem c_X9_size {l : Launch} {G : Gy} (hG : Inj G) (σ : St) {b : Int} (hb : 0 ≤ b ∧ b ≤ 2147483647) : ME l yX9_size wsX9_size ({ frames := 0, cells := 0, slots := 0, locals := 0 } : Room) G [.int (zI (b))] σ (pc b) σ := by
  refine MI.of hG (by decide +kernel) rfl rfl (Nat.le_of_ble_eq_true rfl) rfl ?_
  intro p e s m args below meth c H0 Q hC hret
  have L4 : ∀ (n : Nat) (n1 x : Int), ((pc x).toNat) = n → (0 ≤ x ∧ x ≤ 2147483647) → (0 ≤ n1) → (n1 + pc x = pc b) → wp p l e ({ frames := 0, cells := 0, slots := 0, locals := 0 } : Room) s m args below meth c (aA G (Array.size H0)) H0 3 Q G σ 4 [(0, .int (zI (b))), (1, .int (zI (n1))), (2, .int (zI (x)))] [] := by
    intro n4
    induction n4 using Nat.strongRecOn with
    | ind n4 ih =>
      intro n1 x hm4 h1 h2 h3
      have hr := pc_rng x
      have hr2 := pc_rng b
      refine wp_iload_n hC dX9_size_4 rfl ?_
      refine wp_if_eq (tgt := 20) hC dX9_size_5 (by decide) (by omega) (fun c_5 => ?_) (fun c_5 => ?_)
      · refine wp_iload_n hC dX9_size_20 rfl ?_
        exact hret _ _ _ _ (by omega) rfl (⟨by rw [c_5, pc_0] at h3; omega, rfl⟩) dX9_size_21
      · refine wp_iinc (lv2 := [(0, _), (1, _), (2, _)]) hC dX9_size_8 rfl rfl (by decide) ?_
        refine wp_iload_n hC dX9_size_11 rfl ?_
        refine wp_iload_n hC dX9_size_12 rfl ?_
        refine wp_iconst hC dX9_size_13 ?_
        refine wp_isub hC dX9_size_14 ?_
        refine wp_iand hC dX9_size_15 ?_
        refine wp_istore_n (lv2 := [(0, _), (1, _), (2, _)]) hC dX9_size_16 rfl (by decide) ?_
        refine wp_goto (tgt := 4) hC dX9_size_17 (by decide) ?_
        have hlow := pc_low (B := x) (by omega) (by omega)
        exact ih _ (by have := pc_rng (iand x (x - 1)); omega) _ _ rfl (iand_nn (by omega)) (by omega) (by omega)
  refine wp_iconst hC dX9_size_0 ?_
  refine wp_istore_n (lv2 := [(0, _), (1, _)]) hC dX9_size_1 rfl (by decide) ?_
  refine wp_iload_n hC dX9_size_2 rfl ?_
  refine wp_istore_n (lv2 := [(0, _), (1, _), (2, _)]) hC dX9_size_3 rfl (by decide) ?_
  exact L4 _ _ _ rfl (by omega) (by omega) (by omega)

/-- the first n places of a row laid into another -/
def cpy (σ : St) (i j : Nat) (n : Int) : St := fun a b => if a = j ∧ 0 ≤ b ∧ b < n then σ i b else σ a b
theorem cpy_0 {σ : St} {i j : Nat} : cpy σ i j 0 = σ := by
  funext a b
  unfold cpy
  rw [if_neg (by omega)]
theorem cpy_s {σ : St} {i j : Nat} {k : Int} (h : 0 ≤ k) : put (cpy σ i j k) j k (cpy σ i j k i k) = cpy σ i j (k + 1) := by
  funext a b
  unfold put cpy
  have e : (if i = j ∧ 0 ≤ k ∧ k < k then σ i k else σ i k) = σ i k := by split <;> rfl
  rw [e]
  by_cases h1 : a = j ∧ b = k
  · rw [if_pos h1, if_pos (by omega), h1.2]
  · rw [if_neg h1]
    by_cases h2 : a = j ∧ 0 ≤ b ∧ b < k
    · rw [if_pos h2, if_pos (by omega)]
    · rw [if_neg h2, if_neg (by omega)]

theorem hySX9_copies : yX9_copies.cls ≠ "java/lang/invoke/MethodHandle" ∧ yX9_copies.cls ≠ "java/lang/invoke/VarHandle" ∧ (parseMethodDescriptor yX9_copies.desc).map (fun d => d.parameters.length) = some 2 := by decide +kernel
set_option maxHeartbeats 4000000 in
set_option maxRecDepth 100000 in
theorem c_X9_copies {l : Launch} {G : Gy} (hG : Inj G) (σ : St) (i j : Nat) (hi : i < NID) (hj : j < NID) (ki : kd i = 1) (kj : kd j = 1) (li : ln i = 88) (lj : ln j = 88) : MU l yX9_copies wsX9_copies ({ frames := 0, cells := 0, slots := 0, locals := 0 } : Room) G [.ref (G.2.2 i), .ref (G.2.2 j)] σ (cpy σ i j 88) := by
  refine MV.of hG (by decide +kernel) rfl rfl (Nat.le_of_ble_eq_true rfl) rfl ?_
  intro p e s m args below meth c H0 Q hC hret
  have L2 : ∀ (n : Nat) (k : Int), ((88 - k).toNat) = n → (0 ≤ k ∧ k ≤ 88) → wp p l e ({ frames := 0, cells := 0, slots := 0, locals := 0 } : Room) s m args below meth c (aA G (Array.size H0)) H0 3 Q G (cpy σ i j k) 2 [(0, .ref (G.2.2 i)), (1, .ref (G.2.2 j)), (2, .int (zI (k)))] [] := by
    intro n2
    induction n2 using Nat.strongRecOn with
    | ind n2 ih =>
      intro k hm2 h1
      refine wp_iload_n hC dX9_copies_2 rfl ?_
      refine wp_aload_n hC dX9_copies_3 rfl ?_
      refine wp_alen (n := 88) hC (li) (ki) (hi) dX9_copies_4 ?_
      refine wp_icmp_ge (tgt := 20) hC dX9_copies_5 (by decide) (by omega) (by omega) (fun c_5 => ?_) (fun c_5 => ?_)
      · exact hret _ _ _ (by rw [show k = 88 by omega]) dX9_copies_20
      · refine wp_aload_n hC dX9_copies_8 rfl ?_
        refine wp_iload_n hC dX9_copies_9 rfl ?_
        refine wp_aload_n hC dX9_copies_10 rfl ?_
        refine wp_iload_n hC dX9_copies_11 rfl ?_
        refine wp_iald (n := 88) hC (li) (Nat.le_of_ble_eq_true rfl) (ki) (hi) (by omega) dX9_copies_12 ?_
        refine wp_iast (n := 88) hC (lj) (Nat.le_of_ble_eq_true rfl) (kj) (hj) (by omega) dX9_copies_13 ?_
        refine wp_iinc (lv2 := [(0, _), (1, _), (2, _)]) hC dX9_copies_14 rfl rfl (by decide) ?_
        refine wp_goto (tgt := 2) hC dX9_copies_17 (by decide) ?_
        rw [cpy_s h1.1]
        exact ih _ (by omega) _ rfl (by omega)
  refine wp_iconst hC dX9_copies_0 ?_
  refine wp_istore_n (lv2 := [(0, _), (1, _), (2, _)]) hC dX9_copies_1 rfl (by decide) ?_
  refine wp_st (σ2 := cpy σ i j 0) cpy_0.symm ?_
  exact L2 _ _ rfl (by omega)

theorem hyVX9_begins : yX9_begins.cls = RX9 ∧ yX9_begins.cls ≠ "java/lang/invoke/MethodHandle" ∧ yX9_begins.cls ≠ "java/lang/invoke/VarHandle" ∧ (parseMethodDescriptor yX9_begins.desc).map (fun d => d.parameters.length) = some 0 := by decide +kernel
theorem uX9_begins_X9 : ∀ w ∈ u_ws RX9 TX9 35, w ∈ wsX9_begins := by decide +kernel
theorem fX9_begins_9 : Cond.fieldLink RX9 9 (TX9 0).1 (TX9 0).2.1 (TX9 0).2.2.1 ∈ wsX9_begins := by decide +kernel
theorem fX9_begins_36 : Cond.fieldLink RX9 36 (TX9 9).1 (TX9 9).2.1 (TX9 9).2.2.1 ∈ wsX9_begins := by decide +kernel
set_option maxHeartbeats 4000000 in
set_option maxRecDepth 100000 in
theorem c_X9_begins {l : Launch} {G : Gy} (hG : Inj G) (σ : St) : MU l yX9_begins wsX9_begins ({ frames := 1, cells := 0, slots := 0, locals := 22 } : Room) G [.ref (G.2.2 0)] σ (cpy σ 1 9 88) := by
  refine MV.of hG (by decide +kernel) rfl rfl (Nat.le_of_ble_eq_true rfl) rfl ?_
  intro p e s m args below meth c H0 Q hC hret
  refine wp_aload_n hC dX9_begins_0 rfl ?_
  refine wp_geta (k := 0) hC (rfl) (by decide) (rfl) (rfl) (by decide) uX9_begins_X9 fX9_begins_9 (rfl) dX9_begins_1 ?_
  refine wp_aload_n hC dX9_begins_4 rfl ?_
  refine wp_geta (k := 9) hC (rfl) (by decide) (rfl) (rfl) (by decide) uX9_begins_X9 fX9_begins_36 (rfl) dX9_begins_5 ?_
  refine wp_callSu (As := [_, _]) hC (c_X9_copies hG _ _ _ (by decide) (by decide) rfl rfl rfl rfl) gX9_begins_X9_copies rfl ⟨rfl, rfl⟩ ⟨by decide, by decide⟩ hySX9_copies rfl (Nat.le_of_ble_eq_true rfl) dX9_begins_8 ?_
  exact hret _ _ _ (rfl) dX9_begins_11
