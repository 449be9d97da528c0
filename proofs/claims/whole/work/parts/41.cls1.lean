/-- what the class's cells are -/
def XO (σ : St) : Prop := (0 ≤ σ 83 5 ∧ σ 83 5 ≤ 24) ∧ ((∀ j, 0 ≤ j → j < 36 → 0 ≤ σ 109 j ∧ σ 109 j ≤ 99) ∧ (∀ j, 0 ≤ j → j < 4 → 0 ≤ σ 110 j ∧ σ 110 j ≤ 100)) ∧ ∀ o, 0 ≤ o → o < σ 83 5 → (0 ≤ σ 111 o ∧ σ 111 o ≤ 2) ∧ (0 ≤ σ 112 o ∧ σ 112 o ≤ 11) ∧ (0 ≤ σ 84 o ∧ σ 84 o ≤ 60) ∧ (0 ≤ σ 85 o ∧ σ 85 o ≤ 7) ∧ (0 ≤ σ 86 o ∧ σ 86 o ≤ 11) ∧ (0 ≤ σ 87 o ∧ σ 87 o ≤ 3) ∧ (0 ≤ σ 88 o ∧ σ 88 o ≤ 9)
theorem pwI {k : Int} (h0 : 0 ≤ k) (h1 : k ≤ 30) : 0 ≤ pw k ∧ pw k ≤ 2147483647 := by
  have h24 := pw_le h1
  have h30 : pw 30 = 1073741824 := by decide
  have hp := pw_pos k
  omega
theorem iand_bit {B k : Int} (hB : 0 ≤ B ∧ B ≤ 2147483647) (h0 : 0 ≤ k) (h1 : k ≤ 30) : iand B (pw k) = 0 ↔ ¬ tb B k = true := by
  have hp := pwI h0 h1
  have ht : ∀ o, 0 ≤ o → tb (iand B (pw k)) o = (tb B o && decide (o = k)) := fun o a => by rw [tb_iand hB hp, tb_pw h0 a]
  constructor
  · intro z q
    have := ht k h0
    rw [z, q, decide_eq_true rfl] at this
    unfold tb at this
    rw [show (0 : Int).toNat = 0 from rfl, Nat.zero_testBit] at this
    cases this
  · intro z
    refine tb_all0 (iand_nn hB) (fun q a => ?_)
    rw [ht q a]
    by_cases e : q = k
    · rw [e, Bool.eq_false_iff.mpr z]
      rfl
    · rw [decide_eq_false e, Bool.and_false]
theorem iand_bit1 {B k : Int} (hB : 0 ≤ B ∧ B ≤ 2147483647) (h0 : 0 ≤ k) (h1 : k ≤ 30) (h : ¬ iand B (pw k) = 0) : tb B k = true := Decidable.byContradiction (fun z => h ((iand_bit hB h0 h1).mpr z))
def TX (σ : St) (v : Int) : Int := bsum (fun o => decide (σ 111 o = v)) (σ 83 5)

theorem hySX8_within : yX8_within.cls ≠ "java/lang/invoke/MethodHandle" ∧ yX8_within.cls ≠ "java/lang/invoke/VarHandle" ∧ (parseMethodDescriptor yX8_within.desc).map (fun d => d.parameters.length) = some 3 := by decide +kernel
set_option maxHeartbeats 4000000 in
set_option maxRecDepth 100000 in
theorem c_X8_within {l : Launch} {G : Gy} (hG : Inj G) (σ : St) {v a b : Int} (hv : iR v) (ha : iR a) (hb : iR b) : MB l yX8_within wsX8_within ({ frames := 0, cells := 0, slots := 0, locals := 0 } : Room) G [.int (zI (v)), .int (zI (a)), .int (zI (b))] σ (a ≤ v ∧ v ≤ b) σ := by
  refine MI.of hG (by decide +kernel) rfl rfl (Nat.le_of_ble_eq_true rfl) rfl ?_
  intro p e s m args below meth c H0 Q hC hret
  refine wp_iload_n hC dX8_within_0 rfl ?_
  refine wp_iload_n hC dX8_within_1 rfl ?_
  refine wp_icmp_lt (tgt := 14) hC dX8_within_2 (by decide) (by omega) (by omega) (fun c_2 => ?_) (fun c_2 => ?_)
  · refine wp_iconst hC dX8_within_14 ?_
    exact hret _ _ _ _ (by omega) rfl (⟨bI0 (by omega), rfl⟩) dX8_within_15
  · refine wp_iload_n hC dX8_within_5 rfl ?_
    refine wp_iload_n hC dX8_within_6 rfl ?_
    refine wp_icmp_gt (tgt := 14) hC dX8_within_7 (by decide) (by omega) (by omega) (fun c_7 => ?_) (fun c_7 => ?_)
    · refine wp_iconst hC dX8_within_14 ?_
      exact hret _ _ _ _ (by omega) rfl (⟨bI0 (by omega), rfl⟩) dX8_within_15
    · refine wp_iconst hC dX8_within_10 ?_
      refine wp_goto (tgt := 15) hC dX8_within_11 (by decide) ?_
      exact hret _ _ _ _ (by omega) rfl (⟨bI1 (by omega), rfl⟩) dX8_within_15

theorem hySX8_isPeriod : yX8_isPeriod.cls ≠ "java/lang/invoke/MethodHandle" ∧ yX8_isPeriod.cls ≠ "java/lang/invoke/VarHandle" ∧ (parseMethodDescriptor yX8_isPeriod.desc).map (fun d => d.parameters.length) = some 1 := by decide +kernel
set_option maxHeartbeats 4000000 in
set_option maxRecDepth 100000 in
theorem c_X8_isPeriod {l : Launch} {G : Gy} (hG : Inj G) (σ : St) {v : Int} (hv : iR v) : MB l yX8_isPeriod wsX8_isPeriod ({ frames := 1, cells := 0, slots := 0, locals := 22 } : Room) G [.int (zI (v))] σ (0 ≤ v ∧ v ≤ 11) σ := by
  refine MI.of hG (by decide +kernel) rfl rfl (Nat.le_of_ble_eq_true rfl) rfl ?_
  intro p e s m args below meth c H0 Q hC hret
  refine wp_iload_n hC dX8_isPeriod_0 rfl ?_
  refine wp_iconst hC dX8_isPeriod_1 ?_
  refine wp_bipush hC dX8_isPeriod_2 rfl ?_
  refine wp_callSb (As := [_, _, _]) hC (c_X8_within hG _ (by omega) (by omega) (by omega)) gX8_isPeriod_X8_within rfl ⟨rfl, rfl⟩ ⟨by decide, by decide⟩ hySX8_within rfl (Nat.le_of_ble_eq_true rfl) dX8_isPeriod_4 (fun hx_4 => ?_)
  exact hret _ _ _ _ (iR_bI) bI_nar (⟨bI_c (by omega), rfl⟩) dX8_isPeriod_7

theorem hySX8_isGroup : yX8_isGroup.cls ≠ "java/lang/invoke/MethodHandle" ∧ yX8_isGroup.cls ≠ "java/lang/invoke/VarHandle" ∧ (parseMethodDescriptor yX8_isGroup.desc).map (fun d => d.parameters.length) = some 1 := by decide +kernel
set_option maxHeartbeats 4000000 in
set_option maxRecDepth 100000 in
theorem c_X8_isGroup {l : Launch} {G : Gy} (hG : Inj G) (σ : St) {v : Int} (hv : iR v) : MB l yX8_isGroup wsX8_isGroup ({ frames := 1, cells := 0, slots := 0, locals := 22 } : Room) G [.int (zI (v))] σ (0 ≤ v ∧ v ≤ 3) σ := by
  refine MI.of hG (by decide +kernel) rfl rfl (Nat.le_of_ble_eq_true rfl) rfl ?_
  intro p e s m args below meth c H0 Q hC hret
  refine wp_iload_n hC dX8_isGroup_0 rfl ?_
  refine wp_iconst hC dX8_isGroup_1 ?_
  refine wp_iconst hC dX8_isGroup_2 ?_
  refine wp_callSb (As := [_, _, _]) hC (c_X8_within hG _ (by omega) (by omega) (by omega)) gX8_isGroup_X8_within rfl ⟨rfl, rfl⟩ ⟨by decide, by decide⟩ hySX8_within rfl (Nat.le_of_ble_eq_true rfl) dX8_isGroup_3 (fun hx_3 => ?_)
  exact hret _ _ _ _ (iR_bI) bI_nar (⟨bI_c (by omega), rfl⟩) dX8_isGroup_6

theorem hySX8_isSupply : yX8_isSupply.cls ≠ "java/lang/invoke/MethodHandle" ∧ yX8_isSupply.cls ≠ "java/lang/invoke/VarHandle" ∧ (parseMethodDescriptor yX8_isSupply.desc).map (fun d => d.parameters.length) = some 2 := by decide +kernel
set_option maxHeartbeats 4000000 in
set_option maxRecDepth 100000 in
theorem c_X8_isSupply {l : Launch} {G : Gy} (hG : Inj G) (σ : St) {i p : Int} (hi : iR i) (hp : iR p) : MB l yX8_isSupply wsX8_isSupply ({ frames := 2, cells := 0, slots := 0, locals := 42 } : Room) G [.int (zI (i)), .int (zI (p))] σ ((0 ≤ i ∧ i ≤ 2) ∧ (0 ≤ p ∧ p ≤ 11)) σ := by
  refine MI.of hG (by decide +kernel) rfl rfl (Nat.le_of_ble_eq_true rfl) rfl ?_
  intro p e s m args below meth c H0 Q hC hret
  refine wp_iload_n hC dX8_isSupply_0 rfl ?_
  refine wp_iconst hC dX8_isSupply_1 ?_
  refine wp_iconst hC dX8_isSupply_2 ?_
  refine wp_callSb (As := [_, _, _]) hC (c_X8_within hG _ (by omega) (by omega) (by omega)) gX8_isSupply_X8_within rfl ⟨rfl, rfl⟩ ⟨by decide, by decide⟩ hySX8_within rfl (Nat.le_of_ble_eq_true rfl) dX8_isSupply_3 (fun hx_3 => ?_)
  refine wp_ifb_eq (tgt := 20) hC dX8_isSupply_6 (by decide) (fun c_6 => ?_) (fun c_6 => ?_)
  · refine wp_iconst hC dX8_isSupply_20 ?_
    exact hret _ _ _ _ (by omega) rfl (⟨bI0 (by omega), rfl⟩) dX8_isSupply_21
  · refine wp_iload_n hC dX8_isSupply_9 rfl ?_
    refine wp_callSb (As := [_]) hC (c_X8_isPeriod hG _ (by omega)) gX8_isSupply_X8_isPeriod rfl ⟨rfl, rfl⟩ ⟨by decide, by decide⟩ hySX8_isPeriod rfl (Nat.le_of_ble_eq_true rfl) dX8_isSupply_10 (fun hx_10 => ?_)
    refine wp_ifb_eq (tgt := 20) hC dX8_isSupply_13 (by decide) (fun c_13 => ?_) (fun c_13 => ?_)
    · refine wp_iconst hC dX8_isSupply_20 ?_
      exact hret _ _ _ _ (by omega) rfl (⟨bI0 (by omega), rfl⟩) dX8_isSupply_21
    · refine wp_iconst hC dX8_isSupply_16 ?_
      refine wp_goto (tgt := 21) hC dX8_isSupply_17 (by decide) ?_
      exact hret _ _ _ _ (by omega) rfl (⟨bI1 (by omega), rfl⟩) dX8_isSupply_21

theorem hyVX8_isOrder : yX8_isOrder.cls = RX8 ∧ yX8_isOrder.cls ≠ "java/lang/invoke/MethodHandle" ∧ yX8_isOrder.cls ≠ "java/lang/invoke/VarHandle" ∧ (parseMethodDescriptor yX8_isOrder.desc).map (fun d => d.parameters.length) = some 1 := by decide +kernel
theorem uX8_isOrder_X8 : ∀ w ∈ u_ws RX8 TX8 13, w ∈ wsX8_isOrder := by decide +kernel
theorem fX8_isOrder_12 : Cond.fieldLink RX8 12 (TX8 0).1 (TX8 0).2.1 (TX8 0).2.2.1 ∈ wsX8_isOrder := by decide +kernel
theorem uX8_isOrder_X0 : ∀ w ∈ u_ws RX0 TX0 6, w ∈ wsX8_isOrder := by decide +kernel
theorem fnX8_116 : Cond.fieldLinkNest RX8 116 (TX0 5).1 (TX0 5).2.1 (TX0 5).2.2.1 "PromiseMind" ∈ tables_1 := List.mem_of_getElem? (i := 60) (by decide +kernel)
set_option maxHeartbeats 4000000 in
set_option maxRecDepth 100000 in
theorem c_X8_isOrder {l : Launch} {G : Gy} (hG : Inj G) (σ : St) {o : Int} (ho : iR o) (hn : 0 ≤ σ 83 5 ∧ σ 83 5 ≤ 24) : MB l yX8_isOrder wsX8_isOrder ({ frames := 1, cells := 0, slots := 0, locals := 22 } : Room) G [.ref (G.2.2 82), .int (zI (o))] σ (0 ≤ o ∧ o < σ 83 5) σ := by
  refine MI.of hG (by decide +kernel) rfl rfl (Nat.le_of_ble_eq_true rfl) rfl ?_
  intro p e s m args below meth c H0 Q hC hret
  refine wp_iload_n hC dX8_isOrder_0 rfl ?_
  refine wp_iconst hC dX8_isOrder_1 ?_
  refine wp_aload_n hC dX8_isOrder_2 rfl ?_
  refine wp_geta (k := 0) hC (rfl) (by decide) (rfl) (rfl) (by decide) uX8_isOrder_X8 fX8_isOrder_12 (rfl) dX8_isOrder_3 ?_
  refine wp_getiN (k := 5) (z := 5) hC rfl (rfl) (by decide) (rfl) (rfl) (by decide) uX8_isOrder_X0 fnX8_116 (rfl) dX8_isOrder_6 ?_
  refine wp_iconst hC dX8_isOrder_9 ?_
  refine wp_isub hC dX8_isOrder_10 ?_
  refine wp_callSb (As := [_, _, _]) hC (c_X8_within hG _ (by omega) (by omega) (by omega)) gX8_isOrder_X8_within rfl ⟨rfl, rfl⟩ ⟨by decide, by decide⟩ hySX8_within rfl (Nat.le_of_ble_eq_true rfl) dX8_isOrder_11 (fun hx_11 => ?_)
  exact hret _ _ _ _ (iR_bI) bI_nar (⟨bI_c (by omega), rfl⟩) dX8_isOrder_14

theorem hySX8_bit : yX8_bit.cls ≠ "java/lang/invoke/MethodHandle" ∧ yX8_bit.cls ≠ "java/lang/invoke/VarHandle" ∧ (parseMethodDescriptor yX8_bit.desc).map (fun d => d.parameters.length) = some 1 := by decide +kernel
set_option maxHeartbeats 4000000 in
set_option maxRecDepth 100000 in
theorem c_X8_bit {l : Launch} {G : Gy} (hG : Inj G) (σ : St) {k : Int} (hk : 0 ≤ k ∧ k ≤ 30) : ME l yX8_bit wsX8_bit ({ frames := 0, cells := 0, slots := 0, locals := 0 } : Room) G [.int (zI (k))] σ (pw k) σ := by
  refine MI.of hG (by decide +kernel) rfl rfl (Nat.le_of_ble_eq_true rfl) rfl ?_
  intro p e s m args below meth c H0 Q hC hret
  have h24 := pw_le hk.2
  have h30 : pw 30 = 1073741824 := by decide
  have hp := pw_pos k
  refine wp_iconst hC dX8_bit_0 ?_
  refine wp_iload_n hC dX8_bit_1 rfl ?_
  refine wp_ishl hC dX8_bit_2 ?_
  refine wp_top (b := pw k) (ishl_1 hk.1 hk.2) ?_
  exact hret _ _ _ _ (by omega) rfl (⟨rfl, rfl⟩) dX8_bit_3

theorem hySX8_startOf : yX8_startOf.cls ≠ "java/lang/invoke/MethodHandle" ∧ yX8_startOf.cls ≠ "java/lang/invoke/VarHandle" ∧ (parseMethodDescriptor yX8_startOf.desc).map (fun d => d.parameters.length) = some 3 := by decide +kernel
set_option maxHeartbeats 4000000 in
set_option maxRecDepth 100000 in
theorem c_X8_startOf {l : Launch} {G : Gy} (hG : Inj G) (σ : St) {it i la : Int} (hi : 0 ≤ i ∧ i ≤ 2) (hit : 0 ≤ it ∧ it ≤ 7) (hla : 0 ≤ la ∧ la ≤ 11) : ME l yX8_startOf wsX8_startOf ({ frames := 0, cells := 0, slots := 0, locals := 0 } : Room) G [.int (zI (it)), .int (zI (i)), .int (zI (la))] σ (if tb it i = true then la + 1 else 0) σ := by
  refine MI.of hG (by decide +kernel) rfl rfl (Nat.le_of_ble_eq_true rfl) rfl ?_
  intro p e s m args below meth c H0 Q hC hret
  refine wp_iload_n hC dX8_startOf_0 rfl ?_
  refine wp_iload_n hC dX8_startOf_1 rfl ?_
  refine wp_ishr hC dX8_startOf_2 ?_
  refine wp_iconst hC dX8_startOf_3 ?_
  refine wp_iand hC dX8_startOf_4 ?_
  refine wp_top (b := bI (tb it i = true)) (bit_at (by omega) (by omega) (by omega) (by omega)) ?_
  refine wp_if_ne (tgt := 12) hC dX8_startOf_5 (by decide) (iR_bI) (fun c_5 => ?_) (fun c_5 => ?_)
  · refine wp_iload_n hC dX8_startOf_12 rfl ?_
    refine wp_iconst hC dX8_startOf_13 ?_
    refine wp_iadd hC dX8_startOf_14 ?_
    exact hret _ _ _ _ (by omega) rfl (⟨(if_pos (bI_1.mp (by rcases bI_rng (b := tb it i = true) with z | z <;> omega))).symm, rfl⟩) dX8_startOf_15
  · refine wp_iconst hC dX8_startOf_8 ?_
    refine wp_goto (tgt := 15) hC dX8_startOf_9 (by decide) ?_
    exact hret _ _ _ _ (by omega) rfl (⟨(if_neg (bI_n1.mp (by omega))).symm, rfl⟩) dX8_startOf_15

theorem hySX8_stepOf : yX8_stepOf.cls ≠ "java/lang/invoke/MethodHandle" ∧ yX8_stepOf.cls ≠ "java/lang/invoke/VarHandle" ∧ (parseMethodDescriptor yX8_stepOf.desc).map (fun d => d.parameters.length) = some 1 := by decide +kernel
set_option maxHeartbeats 4000000 in
set_option maxRecDepth 100000 in
theorem c_X8_stepOf {l : Launch} {G : Gy} (hG : Inj G) (σ : St) {k : Int} (hk : 0 ≤ k ∧ k < 2197) : ME l yX8_stepOf wsX8_stepOf ({ frames := 0, cells := 0, slots := 0, locals := 0 } : Room) G [.int (zI (k))] σ (stp k) σ := by
  refine MI.of hG (by decide +kernel) rfl rfl (Nat.le_of_ble_eq_true rfl) rfl ?_
  intro p e s m args below meth c H0 Q hC hret
  refine wp_iload_n hC dX8_stepOf_0 rfl ?_
  refine wp_sipush hC dX8_stepOf_1 rfl ?_
  refine wp_idiv hC dX8_stepOf_4 (by omega) (by omega) ?_
  refine wp_top (b := k / 169) (Int.tdiv_eq_ediv_of_nonneg hk.1) ?_
  refine wp_sipush hC dX8_stepOf_5 rfl ?_
  refine wp_imul hC dX8_stepOf_8 ?_
  refine wp_iload_n hC dX8_stepOf_9 rfl ?_
  refine wp_bipush hC dX8_stepOf_10 rfl ?_
  refine wp_idiv hC dX8_stepOf_12 (by omega) (by omega) ?_
  refine wp_top (b := k / 13) (Int.tdiv_eq_ediv_of_nonneg hk.1) ?_
  refine wp_bipush hC dX8_stepOf_13 rfl ?_
  refine wp_irem hC dX8_stepOf_15 (by omega) (by omega) ?_
  refine wp_top (b := k / 13 % 13) (Int.tmod_eq_emod_of_nonneg (by omega)) ?_
  refine wp_bipush hC dX8_stepOf_16 rfl ?_
  refine wp_imul hC dX8_stepOf_18 ?_
  refine wp_iadd hC dX8_stepOf_19 ?_
  refine wp_iload_n hC dX8_stepOf_20 rfl ?_
  refine wp_bipush hC dX8_stepOf_21 rfl ?_
  refine wp_irem hC dX8_stepOf_23 (by omega) (by omega) ?_
  refine wp_top (b := k % 13) (Int.tmod_eq_emod_of_nonneg hk.1) ?_
  refine wp_iadd hC dX8_stepOf_24 ?_
  exact hret _ _ _ _ (by omega) rfl (⟨by unfold stp; omega, rfl⟩) dX8_stepOf_25

theorem hyVX8_setOf : yX8_setOf.cls = RX8 ∧ yX8_setOf.cls ≠ "java/lang/invoke/MethodHandle" ∧ yX8_setOf.cls ≠ "java/lang/invoke/VarHandle" ∧ (parseMethodDescriptor yX8_setOf.desc).map (fun d => d.parameters.length) = some 1 := by decide +kernel
theorem uX8_setOf_X8 : ∀ w ∈ u_ws RX8 TX8 13, w ∈ wsX8_setOf := by decide +kernel
theorem fX8_setOf_12 : Cond.fieldLink RX8 12 (TX8 0).1 (TX8 0).2.1 (TX8 0).2.2.1 ∈ wsX8_setOf := by decide +kernel
theorem uX8_setOf_X0 : ∀ w ∈ u_ws RX0 TX0 6, w ∈ wsX8_setOf := by decide +kernel
theorem fX8_setOf_19 : Cond.fieldLink RX8 19 (TX8 1).1 (TX8 1).2.1 (TX8 1).2.2.1 ∈ wsX8_setOf := by decide +kernel
theorem uX8_setOf_X5 : ∀ w ∈ u_ws RX5 TX5 5, w ∈ wsX8_setOf := by decide +kernel
theorem fnX8_124 : Cond.fieldLinkNest RX8 124 (TX5 2).1 (TX5 2).2.1 (TX5 2).2.2.1 "PromiseMind" ∈ tables_1 := List.mem_of_getElem? (i := 90) (by decide +kernel)
set_option maxHeartbeats 4000000 in
set_option maxRecDepth 100000 in
theorem c_X8_setOf {l : Launch} {G : Gy} (hG : Inj G) (σ : St) {w : Int} (hw : iR w) (hx : ∀ o, 0 ≤ o → o < σ 83 5 → 0 ≤ σ 111 o ∧ σ 111 o ≤ 2) (hn : 0 ≤ σ 83 5 ∧ σ 83 5 ≤ 24) : ME l yX8_setOf wsX8_setOf ({ frames := 1, cells := 0, slots := 0, locals := 20 } : Room) G [.ref (G.2.2 82), .int (zI (w))] σ (TX σ w) σ := by
  refine MI.of hG (by decide +kernel) rfl rfl (Nat.le_of_ble_eq_true rfl) rfl ?_
  intro p e s m args below meth c H0 Q hC hret
  have L4 : ∀ (n : Nat) (k b : Int), ((σ 83 5 - k).toNat) = n → (0 ≤ k ∧ k ≤ σ 83 5) → (b = bsum (fun o => decide (σ 111 o = w)) k) → wp p l e ({ frames := 1, cells := 0, slots := 0, locals := 20 } : Room) s m args below meth c (aA G (Array.size H0)) H0 4 Q G σ 4 [(0, .ref (G.2.2 82)), (1, .int (zI (w))), (2, .int (zI (b))), (3, .int (zI (k)))] [] := by
    intro n4
    induction n4 using Nat.strongRecOn with
    | ind n4 ih =>
      intro k b hm4 h1 h2
      have hb := bs_rng (P := fun o => decide (σ 111 o = w)) h1.1
      rw [← h2] at hb
      have hp : pw k ≤ pw 24 := pw_le (by omega)
      have h24 : pw 24 = 16777216 := by decide
      have hxk := fun z : k < σ 83 5 => hx k h1.1 z
      refine wp_iload_n hC dX8_setOf_4 rfl ?_
      refine wp_aload_n hC dX8_setOf_5 rfl ?_
      refine wp_geta (k := 0) hC (rfl) (by decide) (rfl) (rfl) (by decide) uX8_setOf_X8 fX8_setOf_12 (rfl) dX8_setOf_6 ?_
      refine wp_getiN (k := 5) (z := 5) hC rfl (rfl) (by decide) (rfl) (rfl) (by decide) uX8_setOf_X0 fnX8_116 (rfl) dX8_setOf_9 ?_
      refine wp_icmp_ge (tgt := 41) hC dX8_setOf_12 (by decide) (by omega) (by omega) (fun c_12 => ?_) (fun c_12 => ?_)
      · refine wp_iload_n hC dX8_setOf_41 rfl ?_
        exact hret _ _ _ _ (by omega) rfl (⟨by rw [h2, show k = σ 83 5 by omega]; rfl, rfl⟩) dX8_setOf_42
      · refine wp_aload_n hC dX8_setOf_15 rfl ?_
        refine wp_geta (k := 1) hC (rfl) (by decide) (rfl) (rfl) (by decide) uX8_setOf_X8 fX8_setOf_19 (rfl) dX8_setOf_16 ?_
        refine wp_getaN (k := 2) hC (rfl) (by decide) (rfl) (rfl) (by decide) uX8_setOf_X5 fnX8_124 (rfl) dX8_setOf_19 ?_
        refine wp_iload_n hC dX8_setOf_22 rfl ?_
        refine wp_iald (n := 24) hC (rfl) (Nat.le_of_ble_eq_true rfl) (rfl) (by decide) (by omega) dX8_setOf_23 ?_
        refine wp_top (b := σ 111 k) rfl ?_
        refine wp_iload_n hC dX8_setOf_24 rfl ?_
        refine wp_icmp_ne (tgt := 35) hC dX8_setOf_25 (by decide) (by omega) (by omega) (fun c_25 => ?_) (fun c_25 => ?_)
        · refine wp_iinc (lv2 := [(0, _), (1, _), (2, _), (3, _)]) hC dX8_setOf_35 rfl rfl (by decide) ?_
          refine wp_goto (tgt := 4) hC dX8_setOf_38 (by decide) ?_
          exact ih _ (by omega) _ _ rfl (by omega) (by rw [bs_s h1.1, ← h2, if_neg (by simpa using c_25), Int.add_zero])
        · refine wp_iload_n hC dX8_setOf_28 rfl ?_
          refine wp_iload_n hC dX8_setOf_29 rfl ?_
          refine wp_callSe (As := [_]) hC (c_X8_bit hG _ (by omega)) gX8_setOf_X8_bit rfl ⟨rfl, rfl⟩ ⟨by decide, by decide⟩ hySX8_bit rfl (Nat.le_of_ble_eq_true rfl) dX8_setOf_30 (fun hx_30 => ?_)
          refine wp_ior hC dX8_setOf_33 ?_
          refine wp_istore_n (lv2 := [(0, _), (1, _), (2, _), (3, _)]) hC dX8_setOf_34 rfl (by decide) ?_
          refine wp_iinc (lv2 := [(0, _), (1, _), (2, _), (3, _)]) hC dX8_setOf_35 rfl rfl (by decide) ?_
          refine wp_goto (tgt := 4) hC dX8_setOf_38 (by decide) ?_
          exact ih _ (by omega) _ _ rfl (by omega) (by rw [bs_s h1.1, ← h2, if_pos (by simpa using c_25), ior_pw hb.1 hb.2 h1.1 (by omega)])
  refine wp_iconst hC dX8_setOf_0 ?_
  refine wp_istore_n (lv2 := [(0, _), (1, _), (2, _)]) hC dX8_setOf_1 rfl (by decide) ?_
  refine wp_iconst hC dX8_setOf_2 ?_
  refine wp_istore_n (lv2 := [(0, _), (1, _), (2, _), (3, _)]) hC dX8_setOf_3 rfl (by decide) ?_
  exact L4 _ _ _ rfl (by omega) rfl

theorem hyVX8_amountOf : yX8_amountOf.cls = RX8 ∧ yX8_amountOf.cls ≠ "java/lang/invoke/MethodHandle" ∧ yX8_amountOf.cls ≠ "java/lang/invoke/VarHandle" ∧ (parseMethodDescriptor yX8_amountOf.desc).map (fun d => d.parameters.length) = some 2 := by decide +kernel
theorem uX8_amountOf_X8 : ∀ w ∈ u_ws RX8 TX8 13, w ∈ wsX8_amountOf := by decide +kernel
theorem fX8_amountOf_12 : Cond.fieldLink RX8 12 (TX8 0).1 (TX8 0).2.1 (TX8 0).2.2.1 ∈ wsX8_amountOf := by decide +kernel
theorem uX8_amountOf_X0 : ∀ w ∈ u_ws RX0 TX0 6, w ∈ wsX8_amountOf := by decide +kernel
theorem fnX8_136 : Cond.fieldLinkNest RX8 136 (TX0 0).1 (TX0 0).2.1 (TX0 0).2.2.1 "PromiseMind" ∈ tables_1 := List.mem_of_getElem? (i := 41) (by decide +kernel)
theorem fnX8_142 : Cond.fieldLinkNest RX8 142 (TX0 3).1 (TX0 3).2.1 (TX0 3).2.2.1 "PromiseMind" ∈ tables_1 := List.mem_of_getElem? (i := 53) (by decide +kernel)
set_option maxHeartbeats 4000000 in
set_option maxRecDepth 100000 in
theorem c_X8_amountOf {l : Launch} {G : Gy} (hG : Inj G) (σ : St) {g B : Int} (h : XO σ) (hg : -1 ≤ g ∧ g ≤ 3) (hB : 0 ≤ B ∧ B ≤ 2147483647) : ME l yX8_amountOf wsX8_amountOf ({ frames := 1, cells := 0, slots := 0, locals := 20 } : Room) G [.ref (G.2.2 82), .int (zI (g)), .int (zI (B))] σ (amS (σ 83 5) (σ 84) (σ 87) (tb B) g) σ := by
  refine MI.of hG (by decide +kernel) rfl rfl (Nat.le_of_ble_eq_true rfl) rfl ?_
  intro p e s m args below meth c H0 Q hC hret
  have hn := h.1
  have L5 : ∀ (n : Nat) (k v : Int), ((σ 83 5 - k).toNat) = n → (0 ≤ k ∧ k ≤ σ 83 5) → (v = amS k (σ 84) (σ 87) (tb B) g) → wp p l e ({ frames := 1, cells := 0, slots := 0, locals := 20 } : Room) s m args below meth c (aA G (Array.size H0)) H0 5 Q G σ 5 [(0, .ref (G.2.2 82)), (1, .int (zI (g))), (2, .int (zI (B))), (3, .int (zI (v))), (4, .int (zI (k)))] [] := by
    intro n5
    induction n5 using Nat.strongRecOn with
    | ind n5 ih =>
      intro k v hm5 h1 h2
      have hv := amS_rng (n := k) (am := σ 84) (gr := σ 87) (P := tb B) (g := g) h1.1 (fun o a b => (h.2.2 o a (by omega)).2.2.1)
      rw [← h2] at hv
      have hk := fun z : k < σ 83 5 => h.2.2 k h1.1 z
      have hs : ∀ x : Int, (if tb B k = true ∧ (g < 0 ∨ σ 87 k = g) then σ 84 k else 0) = x → v + x = amS (k + 1) (σ 84) (σ 87) (tb B) g := fun x e => by rw [h2, ← e]; exact (sm_s h1.1).symm
      refine wp_iload hC dX8_amountOf_5 rfl ?_
      refine wp_aload_n hC dX8_amountOf_7 rfl ?_
      refine wp_geta (k := 0) hC (rfl) (by decide) (rfl) (rfl) (by decide) uX8_amountOf_X8 fX8_amountOf_12 (rfl) dX8_amountOf_8 ?_
      refine wp_getiN (k := 5) (z := 5) hC rfl (rfl) (by decide) (rfl) (rfl) (by decide) uX8_amountOf_X0 fnX8_116 (rfl) dX8_amountOf_11 ?_
      refine wp_icmp_ge (tgt := 65) hC dX8_amountOf_14 (by decide) (by omega) (by omega) (fun c_14 => ?_) (fun c_14 => ?_)
      · refine wp_iload_n hC dX8_amountOf_65 rfl ?_
        exact hret _ _ _ _ (by omega) rfl (⟨by rw [h2, show k = σ 83 5 by omega], rfl⟩) dX8_amountOf_66
      · refine wp_iload_n hC dX8_amountOf_17 rfl ?_
        refine wp_iload hC dX8_amountOf_18 rfl ?_
        refine wp_callSe (As := [_]) hC (c_X8_bit hG _ (by omega)) gX8_amountOf_X8_bit rfl ⟨rfl, rfl⟩ ⟨by decide, by decide⟩ hySX8_bit rfl (Nat.le_of_ble_eq_true rfl) dX8_amountOf_20 (fun hx_20 => ?_)
        refine wp_iand hC dX8_amountOf_23 ?_
        refine wp_top (b := iand B (pw k)) (rfl) ?_
        refine wp_if_eq (tgt := 59) hC dX8_amountOf_24 (by decide) (by have := iand_nn (b := pw k) hB; omega) (fun c_24 => ?_) (fun c_24 => ?_)
        · have hbit : ¬ tb B k = true := (iand_bit hB h1.1 (by omega)).mp c_24
          refine wp_iinc (lv2 := [(0, _), (1, _), (2, _), (3, _), (4, _)]) hC dX8_amountOf_59 rfl rfl (by decide) ?_
          refine wp_goto (tgt := 5) hC dX8_amountOf_62 (by decide) ?_
          exact ih _ (by omega) _ _ rfl (by omega) (by rw [← hs 0 (if_neg (fun z => hbit z.1)), Int.add_zero])
        · have hbit : tb B k = true := iand_bit1 hB h1.1 (by omega) c_24
          refine wp_iload_n hC dX8_amountOf_27 rfl ?_
          refine wp_iconst hC dX8_amountOf_28 ?_
          refine wp_icmp_eq (tgt := 46) hC dX8_amountOf_29 (by decide) (by omega) (by omega) (fun c_29 => ?_) (fun c_29 => ?_)
          · refine wp_iload_n hC dX8_amountOf_46 rfl ?_
            refine wp_aload_n hC dX8_amountOf_47 rfl ?_
            refine wp_geta (k := 0) hC (rfl) (by decide) (rfl) (rfl) (by decide) uX8_amountOf_X8 fX8_amountOf_12 (rfl) dX8_amountOf_48 ?_
            refine wp_getaN (k := 0) hC (rfl) (by decide) (rfl) (rfl) (by decide) uX8_amountOf_X0 fnX8_136 (rfl) dX8_amountOf_51 ?_
            refine wp_iload hC dX8_amountOf_54 rfl ?_
            refine wp_iald (n := 24) hC (rfl) (Nat.le_of_ble_eq_true rfl) (rfl) (by decide) (by omega) dX8_amountOf_56 ?_
            refine wp_top (b := σ 84 k) rfl ?_
            refine wp_iadd hC dX8_amountOf_57 ?_
            refine wp_istore_n (lv2 := [(0, _), (1, _), (2, _), (3, _), (4, _)]) hC dX8_amountOf_58 rfl (by decide) ?_
            refine wp_iinc (lv2 := [(0, _), (1, _), (2, _), (3, _), (4, _)]) hC dX8_amountOf_59 rfl rfl (by decide) ?_
            refine wp_goto (tgt := 5) hC dX8_amountOf_62 (by decide) ?_
            exact ih _ (by omega) _ _ rfl (by omega) (hs _ (if_pos ⟨hbit, by omega⟩))
          · refine wp_aload_n hC dX8_amountOf_32 rfl ?_
            refine wp_geta (k := 0) hC (rfl) (by decide) (rfl) (rfl) (by decide) uX8_amountOf_X8 fX8_amountOf_12 (rfl) dX8_amountOf_33 ?_
            refine wp_getaN (k := 3) hC (rfl) (by decide) (rfl) (rfl) (by decide) uX8_amountOf_X0 fnX8_142 (rfl) dX8_amountOf_36 ?_
            refine wp_iload hC dX8_amountOf_39 rfl ?_
            refine wp_iald (n := 24) hC (rfl) (Nat.le_of_ble_eq_true rfl) (rfl) (by decide) (by omega) dX8_amountOf_41 ?_
            refine wp_top (b := σ 87 k) rfl ?_
            refine wp_iload_n hC dX8_amountOf_42 rfl ?_
            refine wp_icmp_ne (tgt := 59) hC dX8_amountOf_43 (by decide) (by omega) (by omega) (fun c_43 => ?_) (fun c_43 => ?_)
            · refine wp_iinc (lv2 := [(0, _), (1, _), (2, _), (3, _), (4, _)]) hC dX8_amountOf_59 rfl rfl (by decide) ?_
              refine wp_goto (tgt := 5) hC dX8_amountOf_62 (by decide) ?_
              exact ih _ (by omega) _ _ rfl (by omega) (by rw [← hs 0 (if_neg (fun z => by have := z.2; omega)), Int.add_zero])
            · refine wp_iload_n hC dX8_amountOf_46 rfl ?_
              refine wp_aload_n hC dX8_amountOf_47 rfl ?_
              refine wp_geta (k := 0) hC (rfl) (by decide) (rfl) (rfl) (by decide) uX8_amountOf_X8 fX8_amountOf_12 (rfl) dX8_amountOf_48 ?_
              refine wp_getaN (k := 0) hC (rfl) (by decide) (rfl) (rfl) (by decide) uX8_amountOf_X0 fnX8_136 (rfl) dX8_amountOf_51 ?_
              refine wp_iload hC dX8_amountOf_54 rfl ?_
              refine wp_iald (n := 24) hC (rfl) (Nat.le_of_ble_eq_true rfl) (rfl) (by decide) (by omega) dX8_amountOf_56 ?_
              refine wp_top (b := σ 84 k) rfl ?_
              refine wp_iadd hC dX8_amountOf_57 ?_
              refine wp_istore_n (lv2 := [(0, _), (1, _), (2, _), (3, _), (4, _)]) hC dX8_amountOf_58 rfl (by decide) ?_
              refine wp_iinc (lv2 := [(0, _), (1, _), (2, _), (3, _), (4, _)]) hC dX8_amountOf_59 rfl rfl (by decide) ?_
              refine wp_goto (tgt := 5) hC dX8_amountOf_62 (by decide) ?_
              exact ih _ (by omega) _ _ rfl (by omega) (hs _ (if_pos ⟨hbit, by omega⟩))
  refine wp_iconst hC dX8_amountOf_0 ?_
  refine wp_istore_n (lv2 := [(0, _), (1, _), (2, _), (3, _)]) hC dX8_amountOf_1 rfl (by decide) ?_
  refine wp_iconst hC dX8_amountOf_2 ?_
  refine wp_istore (lv2 := [(0, _), (1, _), (2, _), (3, _), (4, _)]) hC dX8_amountOf_3 rfl (by decide) ?_
  exact L5 _ _ _ rfl (by omega) rfl
