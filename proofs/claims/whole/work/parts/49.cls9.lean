/-- a shelf laid -/
def SLk (σ : St) (w n k : Int) : St := fun a b => if a = 101 ∧ 24 * w ≤ b ∧ b < 24 * w + k then 0 else put σ 102 w n a b
theorem SL_0 {σ : St} {w n : Int} : put σ 102 w n = SLk σ w n 0 := by
  funext a b
  unfold SLk
  rw [if_neg (by omega)]
theorem SL_s {σ : St} {w n k i : Int} (h : 0 ≤ k) (hi : i = 24 * w + k) : put (SLk σ w n k) 101 i 0 = SLk σ w n (k + 1) := by
  subst hi
  funext a b
  by_cases q : a = 101 ∧ b = 24 * w + k
  · rw [q.1, q.2, put_s]
    unfold SLk
    rw [if_pos (by omega)]
  · rw [put_q q]
    unfold SLk
    by_cases z : a = 101 ∧ 24 * w ≤ b ∧ b < 24 * w + k
    · rw [if_pos z, if_pos (by omega)]
    · rw [if_neg z, if_neg (by omega)]

theorem hyVX4_lay : yX4_lay.cls = RX4 ∧ yX4_lay.cls ≠ "java/lang/invoke/MethodHandle" ∧ yX4_lay.cls ≠ "java/lang/invoke/VarHandle" ∧ (parseMethodDescriptor yX4_lay.desc).map (fun d => d.parameters.length) = some 2 := by decide +kernel
theorem uX4_lay_X4 : ∀ w ∈ u_ws RX4 TX4 2, w ∈ wsX4_lay := by decide +kernel
theorem fX4_lay_9 : Cond.fieldLink RX4 9 (TX4 0).1 (TX4 0).2.1 (TX4 0).2.2.1 ∈ wsX4_lay := by decide +kernel
theorem fX4_lay_15 : Cond.fieldLink RX4 15 (TX4 1).1 (TX4 1).2.1 (TX4 1).2.2.1 ∈ wsX4_lay := by decide +kernel
set_option maxHeartbeats 4000000 in
set_option maxRecDepth 100000 in
theorem c_X4_lay {l : Launch} {G : Gy} (hG : Inj G) (σ : St) {w n1 : Int} (hw : 0 ≤ w ∧ w < 4) (hn1 : 0 ≤ n1 ∧ n1 ≤ 24) : MU l yX4_lay wsX4_lay ({ frames := 1, cells := 0, slots := 0, locals := 21 } : Room) G [.ref (G.2.2 100), .int (zI (w)), .int (zI (n1))] σ (SLk σ w n1 24) := by
  refine MV.of hG (by decide +kernel) rfl rfl (Nat.le_of_ble_eq_true rfl) rfl ?_
  intro p e s m args below meth c H0 Q hC hret
  have L23 : ∀ (n : Nat) (k : Int), ((24 - k).toNat) = n → (0 ≤ k ∧ k ≤ 24) → wp p l e ({ frames := 1, cells := 0, slots := 0, locals := 21 } : Room) s m args below meth c (aA G (Array.size H0)) H0 4 Q G (SLk σ w n1 k) 23 [(0, .ref (G.2.2 100)), (1, .int (zI (w))), (2, .int (zI (n1))), (3, .int (zI (k)))] [] := by
    intro n23
    induction n23 using Nat.strongRecOn with
    | ind n23 ih =>
      intro k hm23 h1
      refine wp_iload_n hC dX4_lay_23 rfl ?_
      refine wp_bipush hC dX4_lay_24 rfl ?_
      refine wp_icmp_ge (tgt := 47) hC dX4_lay_26 (by decide) (by omega) (by omega) (fun c_26 => ?_) (fun c_26 => ?_)
      · exact hret _ _ _ (by rw [show k = 24 by omega]) dX4_lay_47
      · refine wp_aload_n hC dX4_lay_29 rfl ?_
        refine wp_geta (k := 0) hC (rfl) (by decide) (rfl) (rfl) (by decide) uX4_lay_X4 fX4_lay_9 (rfl) dX4_lay_30 ?_
        refine wp_iload_n hC dX4_lay_33 rfl ?_
        refine wp_bipush hC dX4_lay_34 rfl ?_
        refine wp_imul hC dX4_lay_36 ?_
        refine wp_iload_n hC dX4_lay_37 rfl ?_
        refine wp_iadd hC dX4_lay_38 ?_
        refine wp_lconst hC dX4_lay_39 ?_
        refine wp_last (n := 96) hC (rfl) (Nat.le_of_ble_eq_true rfl) (rfl) (by decide) (by omega) dX4_lay_40 ?_
        refine wp_iinc (lv2 := [(0, _), (1, _), (2, _), (3, _)]) hC dX4_lay_41 rfl rfl (by decide) ?_
        refine wp_goto (tgt := 23) hC dX4_lay_44 (by decide) ?_
        refine wp_st (SL_s h1.1 (by omega)) ?_
        exact ih _ (by omega) _ rfl (by omega)
  refine wp_aload_n hC dX4_lay_0 rfl ?_
  refine wp_iload_n hC dX4_lay_1 rfl ?_
  refine wp_callVb (As := [_]) hC (c_X4_has hG _ (by omega)) gX4_lay_X4_has rfl ⟨rfl, rfl⟩ ⟨by decide, by decide⟩ hyVX4_has (rfl) (by decide) (rfl) rfl (Nat.le_of_ble_eq_true rfl) dX4_lay_2 (fun hx_2 => ?_)
  refine wp_ifb_ne (tgt := 9) hC dX4_lay_5 (by decide) (fun c_5 => ?_) (fun c_5 => ?_)
  · refine wp_aload_n hC dX4_lay_9 rfl ?_
    refine wp_geta (k := 1) hC (rfl) (by decide) (rfl) (rfl) (by decide) uX4_lay_X4 fX4_lay_15 (rfl) dX4_lay_10 ?_
    refine wp_iload_n hC dX4_lay_13 rfl ?_
    refine wp_iload_n hC dX4_lay_14 rfl ?_
    refine wp_bipush hC dX4_lay_15 rfl ?_
    refine wp_mmin hC (by decide +kernel) (by decide +kernel) (by decide +kernel) (by decide +kernel) (Nat.le_of_ble_eq_true rfl) (Nat.le_of_ble_eq_true rfl) (by omega) (by omega) dX4_lay_17 ?_
    refine wp_top (b := n1) (by omega) ?_
    refine wp_iast (n := 4) hC (rfl) (Nat.le_of_ble_eq_true rfl) (rfl) (by decide) (by omega) dX4_lay_20 ?_
    refine wp_iconst hC dX4_lay_21 ?_
    refine wp_istore_n (lv2 := [(0, _), (1, _), (2, _), (3, _)]) hC dX4_lay_22 rfl (by decide) ?_
    refine wp_st (SL_0 (σ := σ) (w := w) (n := n1)) ?_
    exact L23 _ 0 rfl (by omega)
  · exact absurd hw c_5

theorem hyVX4_read : yX4_read.cls = RX4 ∧ yX4_read.cls ≠ "java/lang/invoke/MethodHandle" ∧ yX4_read.cls ≠ "java/lang/invoke/VarHandle" ∧ (parseMethodDescriptor yX4_read.desc).map (fun d => d.parameters.length) = some 2 := by decide +kernel
theorem uX4_read_X4 : ∀ w ∈ u_ws RX4 TX4 2, w ∈ wsX4_read := by decide +kernel
theorem fX4_read_9 : Cond.fieldLink RX4 9 (TX4 0).1 (TX4 0).2.1 (TX4 0).2.2.1 ∈ wsX4_read := by decide +kernel
set_option maxHeartbeats 4000000 in
set_option maxRecDepth 100000 in
theorem c_X4_read {l : Launch} {G : Gy} (hG : Inj G) (σ : St) {w i : Int} (hw : iR w) (hi : iR i) (hz : ∀ k, 0 ≤ k → k < 4 → -1 ≤ σ 102 k ∧ σ 102 k ≤ 24) (hr : ∀ j, 0 ≤ j → j < 96 → lR (σ 101 j)) : ML l yX4_read wsX4_read ({ frames := 2, cells := 0, slots := 0, locals := 43 } : Room) G [.ref (G.2.2 100), .int (zI (w)), .int (zI (i))] σ (fun x σ2 => σ2 = σ ∧ x = if (0 ≤ w ∧ w < 4) ∧ 0 ≤ i ∧ i < σ 102 w then σ 101 (24 * w + i) else 0) := by
  refine ML.of hG (by decide +kernel) rfl rfl (Nat.le_of_ble_eq_true rfl) rfl ?_
  intro p e s m args below meth c H0 Q hC hret
  have hzs := fun (a : 0 ≤ w) (b : w < 4) => hz w a b
  refine wp_aload_n hC dX4_read_0 rfl ?_
  refine wp_iload_n hC dX4_read_1 rfl ?_
  refine wp_iload_n hC dX4_read_2 rfl ?_
  refine wp_callVb (As := [_, _]) hC (c_X4_hasPlace hG _ (by omega) (by omega) hz) gX4_read_X4_hasPlace rfl ⟨rfl, rfl⟩ ⟨by decide, by decide⟩ hyVX4_hasPlace (rfl) (by decide) (rfl) rfl (Nat.le_of_ble_eq_true rfl) dX4_read_3 (fun hx_3 => ?_)
  refine wp_ifb_eq (tgt := 23) hC dX4_read_6 (by decide) (fun c_6 => ?_) (fun c_6 => ?_)
  · refine wp_lconst hC dX4_read_23 ?_
    exact hret _ _ _ _ (by omega) (⟨rfl, (if_neg c_6).symm⟩) dX4_read_24
  · refine wp_aload_n hC dX4_read_9 rfl ?_
    refine wp_geta (k := 0) hC (rfl) (by decide) (rfl) (rfl) (by decide) uX4_read_X4 fX4_read_9 (rfl) dX4_read_10 ?_
    refine wp_iload_n hC dX4_read_13 rfl ?_
    refine wp_bipush hC dX4_read_14 rfl ?_
    refine wp_imul hC dX4_read_16 ?_
    refine wp_iload_n hC dX4_read_17 rfl ?_
    refine wp_iadd hC dX4_read_18 ?_
    refine wp_lald (n := 96) hC (rfl) (Nat.le_of_ble_eq_true rfl) (rfl) (by decide) (by have := hzs (by omega) (by omega); omega) dX4_read_19 ?_
    skip
    refine wp_goto (tgt := 24) hC dX4_read_20 (by decide) ?_
    exact hret _ _ _ _ (hr _ (by have := hzs (by omega) (by omega); omega) (by have := hzs (by omega) (by omega); omega)) (⟨rfl, by rw [if_pos c_6, Int.mul_comm 24 w]⟩) dX4_read_24

theorem hyVX4_write : yX4_write.cls = RX4 ∧ yX4_write.cls ≠ "java/lang/invoke/MethodHandle" ∧ yX4_write.cls ≠ "java/lang/invoke/VarHandle" ∧ (parseMethodDescriptor yX4_write.desc).map (fun d => d.parameters.length) = some 3 := by decide +kernel
theorem uX4_write_X4 : ∀ w ∈ u_ws RX4 TX4 2, w ∈ wsX4_write := by decide +kernel
theorem fX4_write_9 : Cond.fieldLink RX4 9 (TX4 0).1 (TX4 0).2.1 (TX4 0).2.2.1 ∈ wsX4_write := by decide +kernel
set_option maxHeartbeats 4000000 in
set_option maxRecDepth 100000 in
theorem c_X4_write {l : Launch} {G : Gy} (hG : Inj G) (σ : St) {w i v : Int} (hw : 0 ≤ w ∧ w < 4) (hi : 0 ≤ i ∧ i < σ 102 w) (hz : ∀ k, 0 ≤ k → k < 4 → -1 ≤ σ 102 k ∧ σ 102 k ≤ 24) : MU l yX4_write wsX4_write ({ frames := 2, cells := 0, slots := 0, locals := 43 } : Room) G [.ref (G.2.2 100), .int (zI (w)), .int (zI (i)), .long (zL (v))] σ (put σ 101 (24 * w + i) v) := by
  refine MV.of hG (by decide +kernel) rfl rfl (Nat.le_of_ble_eq_true rfl) rfl ?_
  intro p e s m args below meth c H0 Q hC hret
  have hzs := hz w hw.1 hw.2
  refine wp_aload_n hC dX4_write_0 rfl ?_
  refine wp_iload_n hC dX4_write_1 rfl ?_
  refine wp_iload_n hC dX4_write_2 rfl ?_
  refine wp_callVb (As := [_, _]) hC (c_X4_hasPlace hG σ (by omega) (by omega) hz) gX4_write_X4_hasPlace rfl ⟨rfl, rfl⟩ ⟨by decide, by decide⟩ hyVX4_hasPlace (rfl) (by decide) (rfl) rfl (Nat.le_of_ble_eq_true rfl) dX4_write_3 (fun hx_3 => ?_)
  refine wp_ifb_eq (tgt := 21) hC dX4_write_6 (by decide) (fun c_6 => ?_) (fun c_6 => ?_)
  · exact absurd ⟨hw, hi⟩ c_6
  · refine wp_aload_n hC dX4_write_9 rfl ?_
    refine wp_geta (k := 0) hC (rfl) (by decide) (rfl) (rfl) (by decide) uX4_write_X4 fX4_write_9 (rfl) dX4_write_10 ?_
    refine wp_iload_n hC dX4_write_13 rfl ?_
    refine wp_bipush hC dX4_write_14 rfl ?_
    refine wp_imul hC dX4_write_16 ?_
    refine wp_iload_n hC dX4_write_17 rfl ?_
    refine wp_iadd hC dX4_write_18 ?_
    refine wp_lload_n hC dX4_write_19 rfl ?_
    refine wp_last (n := 96) hC (rfl) (Nat.le_of_ble_eq_true rfl) (rfl) (by decide) (by omega) dX4_write_20 ?_
    exact hret _ _ _ (by rw [Int.mul_comm 24 w]) dX4_write_21

/-- signs written behind -/
def PS (σ : St) (ch : Int) : St := put (put σ 104 (σ 103 1) ch) 103 1 (σ 103 1 + 1)
def PNm (σ : St) (v : Int) : St := if 10 ≤ v then PS (PS σ (48 + v / 10)) (48 + v % 10) else PS σ (48 + v)

theorem hyVX3_number : yX3_number.cls = RX3 ∧ yX3_number.cls ≠ "java/lang/invoke/MethodHandle" ∧ yX3_number.cls ≠ "java/lang/invoke/VarHandle" ∧ (parseMethodDescriptor yX3_number.desc).map (fun d => d.parameters.length) = some 1 := by decide +kernel
set_option maxHeartbeats 4000000 in
set_option maxRecDepth 100000 in
theorem c_X3_number {l : Launch} {G : Gy} (hG : Inj G) (σ : St) {v : Int} (hv : 0 ≤ v ∧ v ≤ 99) (hz : 0 ≤ σ 103 1 ∧ σ 103 1 < 30) : MU l yX3_number wsX3_number ({ frames := 1, cells := 0, slots := 0, locals := 21 } : Room) G [.ref (G.2.2 103), .int (zI (v))] σ (PNm σ v) := by
  refine MV.of hG (by decide +kernel) rfl rfl (Nat.le_of_ble_eq_true rfl) rfl ?_
  intro p e s m args below meth c H0 Q hC hret
  refine wp_iload_n hC dX3_number_0 rfl ?_
  refine wp_bipush hC dX3_number_1 rfl ?_
  refine wp_icmp_lt (tgt := 18) hC dX3_number_3 (by decide) (by omega) (by omega) (fun c_3 => ?_) (fun c_3 => ?_)
  · refine wp_aload_n hC dX3_number_18 rfl ?_
    refine wp_bipush hC dX3_number_19 rfl ?_
    refine wp_iload_n hC dX3_number_21 rfl ?_
    refine wp_bipush hC dX3_number_22 rfl ?_
    refine wp_irem hC dX3_number_24 (by omega) (by omega) ?_
    refine wp_top (b := v % 10) (Int.tmod_eq_emod_of_nonneg hv.1) ?_
    refine wp_iadd hC dX3_number_25 ?_
    refine wp_i2c hC dX3_number_26 (by omega) ?_
    refine wp_callVu (As := [_]) hC (c_X3_sign hG σ (ch := 48 + v % 10) (by omega) (by omega)) gX3_number_X3_sign rfl ⟨rfl, rfl⟩ ⟨by decide, by decide⟩ hyVX3_sign (rfl) (by decide) (rfl) rfl (Nat.le_of_ble_eq_true rfl) dX3_number_27 ?_
    exact hret _ _ _ (by unfold PNm; rw [if_neg (by omega), show v % 10 = v by omega]; rfl) dX3_number_30
  · refine wp_aload_n hC dX3_number_6 rfl ?_
    refine wp_bipush hC dX3_number_7 rfl ?_
    refine wp_iload_n hC dX3_number_9 rfl ?_
    refine wp_bipush hC dX3_number_10 rfl ?_
    refine wp_idiv hC dX3_number_12 (by omega) (by omega) ?_
    refine wp_top (b := v / 10) (Int.tdiv_eq_ediv_of_nonneg hv.1) ?_
    refine wp_iadd hC dX3_number_13 ?_
    refine wp_i2c hC dX3_number_14 (by omega) ?_
    refine wp_callVu (As := [_]) hC (c_X3_sign hG σ (ch := 48 + v / 10) (by omega) (by omega)) gX3_number_X3_sign rfl ⟨rfl, rfl⟩ ⟨by decide, by decide⟩ hyVX3_sign (rfl) (by decide) (rfl) rfl (Nat.le_of_ble_eq_true rfl) dX3_number_15 ?_
    refine wp_aload_n hC dX3_number_18 rfl ?_
    refine wp_bipush hC dX3_number_19 rfl ?_
    refine wp_iload_n hC dX3_number_21 rfl ?_
    refine wp_bipush hC dX3_number_22 rfl ?_
    refine wp_irem hC dX3_number_24 (by omega) (by omega) ?_
    refine wp_top (b := v % 10) (Int.tmod_eq_emod_of_nonneg hv.1) ?_
    refine wp_iadd hC dX3_number_25 ?_
    refine wp_i2c hC dX3_number_26 (by omega) ?_
    refine wp_callVu (As := [_]) hC (c_X3_sign hG (PS σ (48 + v / 10)) (ch := 48 + v % 10) (by omega) (show 0 ≤ σ 103 1 + 1 ∧ σ 103 1 + 1 < 32 by omega)) gX3_number_X3_sign rfl ⟨rfl, rfl⟩ ⟨by decide, by decide⟩ hyVX3_sign (rfl) (by decide) (rfl) rfl (Nat.le_of_ble_eq_true rfl) dX3_number_27 ?_
    exact hret _ _ _ (by unfold PNm; rw [if_pos (by omega)]; rfl) dX3_number_30

theorem hyVX3_signAt : yX3_signAt.cls = RX3 ∧ yX3_signAt.cls ≠ "java/lang/invoke/MethodHandle" ∧ yX3_signAt.cls ≠ "java/lang/invoke/VarHandle" ∧ (parseMethodDescriptor yX3_signAt.desc).map (fun d => d.parameters.length) = some 1 := by decide +kernel
theorem uX3_signAt_X3 : ∀ w ∈ u_ws RX3 TX3 2, w ∈ wsX3_signAt := by decide +kernel
theorem fX3_signAt_15 : Cond.fieldLink RX3 15 (TX3 1).1 (TX3 1).2.1 (TX3 1).2.2.1 ∈ wsX3_signAt := by decide +kernel
theorem fX3_signAt_9 : Cond.fieldLink RX3 9 (TX3 0).1 (TX3 0).2.1 (TX3 0).2.2.1 ∈ wsX3_signAt := by decide +kernel
set_option maxHeartbeats 4000000 in
set_option maxRecDepth 100000 in
theorem c_X3_signAt {l : Launch} {G : Gy} (hG : Inj G) (σ : St) {i : Int} (hi : iR i) (hz : 0 ≤ σ 103 1 ∧ σ 103 1 ≤ 32) (hs : ∀ k, 0 ≤ k → k < 32 → 0 ≤ σ 104 k ∧ σ 104 k < 65536) : ME l yX3_signAt wsX3_signAt ({ frames := 0, cells := 0, slots := 0, locals := 0 } : Room) G [.ref (G.2.2 103), .int (zI (i))] σ (if 0 ≤ i ∧ i < σ 103 1 then σ 104 i else 0) σ := by
  refine MI.of hG (by decide +kernel) rfl rfl (Nat.le_of_ble_eq_true rfl) rfl ?_
  intro p e s m args below meth c H0 Q hC hret
  refine wp_iload_n hC dX3_signAt_0 rfl ?_
  refine wp_if_lt (tgt := 27) hC dX3_signAt_1 (by decide) (by omega) (fun c_1 => ?_) (fun c_1 => ?_)
  · refine wp_iconst hC dX3_signAt_27 ?_
    exact hret _ _ _ _ (by omega) rfl (⟨(if_neg (by omega)).symm, rfl⟩) dX3_signAt_28
  · refine wp_iload_n hC dX3_signAt_4 rfl ?_
    refine wp_aload_n hC dX3_signAt_5 rfl ?_
    refine wp_geti (k := 1) (z := 1) hC rfl (rfl) (by decide) (rfl) (rfl) (by decide) uX3_signAt_X3 fX3_signAt_15 (rfl) dX3_signAt_6 ?_
    refine wp_icmp_ge (tgt := 27) hC dX3_signAt_9 (by decide) (by omega) (by omega) (fun c_9 => ?_) (fun c_9 => ?_)
    · refine wp_iconst hC dX3_signAt_27 ?_
      exact hret _ _ _ _ (by omega) rfl (⟨(if_neg (by omega)).symm, rfl⟩) dX3_signAt_28
    · refine wp_iload_n hC dX3_signAt_12 rfl ?_
      refine wp_bipush hC dX3_signAt_13 rfl ?_
      refine wp_icmp_ge (tgt := 27) hC dX3_signAt_15 (by decide) (by omega) (by omega) (fun c_15 => ?_) (fun c_15 => ?_)
      · refine wp_iconst hC dX3_signAt_27 ?_
        exact hret _ _ _ _ (by omega) rfl (⟨(if_neg (by omega)).symm, rfl⟩) dX3_signAt_28
      · refine wp_aload_n hC dX3_signAt_18 rfl ?_
        refine wp_geta (k := 0) hC (rfl) (by decide) (rfl) (rfl) (by decide) uX3_signAt_X3 fX3_signAt_9 (rfl) dX3_signAt_19 ?_
        refine wp_iload_n hC dX3_signAt_22 rfl ?_
        refine wp_cald (n := 32) hC (rfl) (Nat.le_of_ble_eq_true rfl) (rfl) (by decide) (by omega) dX3_signAt_23 ?_
        refine wp_goto (tgt := 28) hC dX3_signAt_24 (by decide) ?_
        have hsi := hs i (by omega) (by omega)
        exact hret _ _ _ _ (by omega) rfl (⟨(if_pos (by omega)).symm, rfl⟩) dX3_signAt_28

/-- the sign at a place of the tape -/
def cx (σ : St) (q : Int) : Int := ch (σ 90) (σ 89 1) q
theorem sgn_ch {σ : St} (hz : 0 ≤ σ 89 1 ∧ σ 89 1 ≤ 100) (ha : 0 ≤ σ 89 2) : sgn σ = cx σ (σ 89 2) := by
  unfold sgn cx ch
  by_cases h : 0 ≤ σ 89 2 ∧ σ 89 2 < σ 89 1
  · rw [if_pos h, if_pos ⟨h.2, by omega⟩]
  · rw [if_neg h, if_neg (fun z => h ⟨ha, z.1⟩)]
theorem cx_rng {σ : St} {q : Int} (hz : 0 ≤ σ 89 1 ∧ σ 89 1 ≤ 100) (hs : ∀ k, 0 ≤ k → k < 100 → 0 ≤ σ 90 k ∧ σ 90 k ≤ 126) : 0 ≤ cx σ q ∧ cx σ q ≤ 126 := ch_rng (fun j a b => hs j a (by omega))

theorem hyVX7_skip : yX7_skip.cls = RX7 ∧ yX7_skip.cls ≠ "java/lang/invoke/MethodHandle" ∧ yX7_skip.cls ≠ "java/lang/invoke/VarHandle" ∧ (parseMethodDescriptor yX7_skip.desc).map (fun d => d.parameters.length) = some 1 := by decide +kernel
theorem uX7_skip_X7 : ∀ w ∈ u_ws RX7 TX7 4, w ∈ wsX7_skip := by decide +kernel
theorem fX7_skip_23 : Cond.fieldLink RX7 23 (TX7 2).1 (TX7 2).2.1 (TX7 2).2.2.1 ∈ wsX7_skip := by decide +kernel
set_option maxHeartbeats 4000000 in
set_option maxRecDepth 100000 in
theorem c_X7_skip {l : Launch} {G : Gy} (hG : Inj G) (σ : St) {c1 : Int} (hc : 0 ≤ c1 ∧ c1 < 65536) (hz : 0 ≤ σ 89 1 ∧ σ 89 1 ≤ 100) (ha : 0 ≤ σ 89 2 ∧ σ 89 2 ≤ 900) (hs : ∀ k, 0 ≤ k → k < 100 → 0 ≤ σ 90 k ∧ σ 90 k ≤ 126) : MI l yX7_skip wsX7_skip ({ frames := 1, cells := 0, slots := 0, locals := 20 } : Room) G [.ref (G.2.2 89), .int (zI (c1))] σ (fun x σ2 => (cx σ (σ 89 2) = c1 ∧ x = 1 ∧ σ2 = put σ 89 2 (σ 89 2 + 1)) ∨ (cx σ (σ 89 2) ≠ c1 ∧ x = 0 ∧ σ2 = σ)) := by
  refine MI.of hG (by decide +kernel) rfl rfl (Nat.le_of_ble_eq_true rfl) rfl ?_
  intro p e s m args below meth c H0 Q hC hret
  have hcr := cx_rng (q := σ 89 2) hz hs
  refine wp_aload_n hC dX7_skip_0 rfl ?_
  refine wp_callVe (As := []) hC (c_X7_sign hG σ (show iR (σ 89 1) by omega) (show 0 ≤ σ 89 2 ∧ σ 89 2 ≤ 1000 by omega) (fun k a b => by have := hs k a b; exact (show 0 ≤ σ 90 k ∧ σ 90 k < 65536 by omega))) gX7_skip_X7_sign rfl ⟨rfl, rfl⟩ ⟨by decide, by decide⟩ hyVX7_sign (rfl) (by decide) (rfl) rfl (Nat.le_of_ble_eq_true rfl) dX7_skip_1 (fun hx_1 => ?_)
  refine wp_top (b := cx σ (σ 89 2)) (sgn_ch hz ha.1) ?_
  refine wp_iload_n hC dX7_skip_4 rfl ?_
  refine wp_icmp_eq (tgt := 10) hC dX7_skip_5 (by decide) (by omega) (by omega) (fun c_5 => ?_) (fun c_5 => ?_)
  · refine wp_aload_n hC dX7_skip_10 rfl ?_
    refine wp_dup hC dX7_skip_11 rfl ?_
    refine wp_geti (k := 2) (z := 2) hC rfl (rfl) (by decide) (rfl) (rfl) (by decide) uX7_skip_X7 fX7_skip_23 (rfl) dX7_skip_12 ?_
    refine wp_iconst hC dX7_skip_15 ?_
    refine wp_iadd hC dX7_skip_16 ?_
    refine wp_puti2 (k := 2) (z := 2) hC rfl (rfl) (by decide) (rfl) (rfl) (by decide) uX7_skip_X7 fX7_skip_23 tyX7 tyX7_ok nmX7 rfl rfl (rfl) dX7_skip_17 ?_
    refine wp_iconst hC dX7_skip_20 ?_
    exact hret _ _ _ _ (by omega) rfl (Or.inl ⟨by omega, rfl, rfl⟩) dX7_skip_21
  · refine wp_iconst hC dX7_skip_8 ?_
    exact hret _ _ _ _ (by omega) rfl (Or.inr ⟨c_5, rfl, rfl⟩) dX7_skip_9

def fgr (x : Int) : Prop := 48 ≤ x ∧ x ≤ 57
/-- a number being read: so many figures, what they make -/
def NPi (σ : St) (q j v : Int) : Prop := (j = 0 ∧ v = 0) ∨ (j = 1 ∧ (48 ≤ cx σ q ∧ cx σ q ≤ 57) ∧ v = cx σ q - 48) ∨ (j = 2 ∧ (48 ≤ cx σ q ∧ cx σ q ≤ 57) ∧ (48 ≤ cx σ (q + 1) ∧ cx σ (q + 1) ≤ 57) ∧ v = 10 * (cx σ q - 48) + cx σ (q + 1) - 48)
theorem NP_nk {σ : St} {q j v : Int} (h : NPi σ q j v) (he : j = 2 ∨ ¬ (48 ≤ cx σ (q + j) ∧ cx σ (q + j) ≤ 57)) : j = nk (σ 90) (σ 89 1) 2 q ∧ (j ≠ 0 → v = nv (σ 90) (σ 89 1) 2 q) := by
  have ek : nk (σ 90) (σ 89 1) 2 q = j := by
    unfold nk
    show (if 48 ≤ cx σ q ∧ cx σ q ≤ 57 then (if (2 : Int) = 2 ∧ 48 ≤ cx σ (q + 1) ∧ cx σ (q + 1) ≤ 57 then 2 else 1) else 0) = j
    rcases h with ⟨rfl, rfl⟩ | ⟨rfl, h2, rfl⟩ | ⟨rfl, h2, h3, rfl⟩
    · rw [Int.add_zero] at he
      rw [if_neg (show ¬ (48 ≤ cx σ q ∧ cx σ q ≤ 57) by omega)]
    · rw [if_pos h2, if_neg (show ¬ ((2 : Int) = 2 ∧ 48 ≤ cx σ (q + 1) ∧ cx σ (q + 1) ≤ 57) by omega)]
    · rw [if_pos h2, if_pos (show (2 : Int) = 2 ∧ 48 ≤ cx σ (q + 1) ∧ cx σ (q + 1) ≤ 57 from ⟨rfl, h3⟩)]
  refine ⟨ek.symm, fun hj => ?_⟩
  unfold nv
  rw [ek]
  rcases h with ⟨rfl, rfl⟩ | ⟨rfl, h2, rfl⟩ | ⟨rfl, h2, h3, rfl⟩
  · exact absurd rfl hj
  · rw [if_neg (by decide)]
    rfl
  · rw [if_pos rfl]
    rfl
/-- a number read: the place and the fault then -/
def RNB (σ : St) (lo hi x : Int) (σ2 : St) : Prop := (0 ≤ (numF (σ 90) (σ 89 1) 2 lo hi (σ 89 2)).1 ∧ x = (numF (σ 90) (σ 89 1) 2 lo hi (σ 89 2)).1 ∧ σ2 = put σ 89 2 (numF (σ 90) (σ 89 1) 2 lo hi (σ 89 2)).2) ∨ ((numF (σ 90) (σ 89 1) 2 lo hi (σ 89 2)).1 < 0 ∧ (0 ≤ x ∧ x ≤ 99) ∧ (numF (σ 90) (σ 89 1) 2 lo hi (σ 89 2)).2 = σ 89 2 ∧ ∃ k, σ2 = put (put σ 89 2 k) 89 3 (σ 89 2))
theorem RNB_y {σ : St} {q j v lo hi : Int} (hq : σ 89 2 = q) (h : NPi σ q j v) (he : j = 2 ∨ ¬ (48 ≤ cx σ (q + j) ∧ cx σ (q + j) ≤ 57)) (hj : j ≠ 0) (h0 : 0 ≤ lo) (h1 : lo ≤ v ∧ v ≤ hi) : RNB σ lo hi v (put σ 89 2 (q + j)) := by
  obtain ⟨e1, e2⟩ := NP_nk h he
  have e2 := e2 hj
  have e3 : numF (σ 90) (σ 89 1) 2 lo hi (σ 89 2) = (v, q + j) := by
    unfold numF
    rw [hq, ← e1, ← e2, if_pos ⟨hj, h1.1, h1.2⟩]
  refine Or.inl ?_
  rw [e3]
  exact ⟨by show 0 ≤ v; omega, rfl, rfl⟩
theorem RNB_n {σ : St} {q j v lo hi : Int} (hq : σ 89 2 = q) (h : NPi σ q j v) (he : j = 2 ∨ ¬ (48 ≤ cx σ (q + j) ∧ cx σ (q + j) ≤ 57)) (hj : j = 0 ∨ ¬ (lo ≤ v ∧ v ≤ hi)) (h1 : 0 ≤ v ∧ v ≤ 99) : RNB σ lo hi v (put (put σ 89 2 (q + j)) 89 3 q) := by
  obtain ⟨e1, e2⟩ := NP_nk h he
  have e3 : numF (σ 90) (σ 89 1) 2 lo hi (σ 89 2) = (-1, q) := by
    unfold numF
    rw [hq, ← e1, if_neg (fun z => ?_)]
    rcases hj with hj | hj
    · exact z.1 hj
    · rw [← e2 z.1] at z
      exact hj z.2
  refine Or.inr ?_
  rw [e3]
  exact ⟨(by show (-1 : Int) < 0; decide), h1, hq.symm, q + j, by rw [hq]⟩

theorem hyVX7_readNumber : yX7_readNumber.cls = RX7 ∧ yX7_readNumber.cls ≠ "java/lang/invoke/MethodHandle" ∧ yX7_readNumber.cls ≠ "java/lang/invoke/VarHandle" ∧ (parseMethodDescriptor yX7_readNumber.desc).map (fun d => d.parameters.length) = some 2 := by decide +kernel
theorem uX7_readNumber_X7 : ∀ w ∈ u_ws RX7 TX7 4, w ∈ wsX7_readNumber := by decide +kernel
theorem fX7_readNumber_23 : Cond.fieldLink RX7 23 (TX7 2).1 (TX7 2).2.1 (TX7 2).2.2.1 ∈ wsX7_readNumber := by decide +kernel
theorem fX7_readNumber_26 : Cond.fieldLink RX7 26 (TX7 3).1 (TX7 3).2.1 (TX7 3).2.2.1 ∈ wsX7_readNumber := by decide +kernel
set_option maxHeartbeats 8000000 in
set_option maxRecDepth 100000 in
theorem c_X7_readNumber {l : Launch} {G : Gy} (hG : Inj G) (σ : St) {lo hi : Int} (hlo : 0 ≤ lo ∧ lo ≤ 99) (hhi : 0 ≤ hi ∧ hi ≤ 99) (hz : 0 ≤ σ 89 1 ∧ σ 89 1 ≤ 100) (ha : 0 ≤ σ 89 2 ∧ σ 89 2 ≤ 900) (hs : ∀ k, 0 ≤ k → k < 100 → 0 ≤ σ 90 k ∧ σ 90 k ≤ 126) : MI l yX7_readNumber wsX7_readNumber ({ frames := 1, cells := 0, slots := 0, locals := 20 } : Room) G [.ref (G.2.2 89), .int (zI (lo)), .int (zI (hi))] σ (RNB σ lo hi) := by
  refine MI.of hG (by decide +kernel) rfl rfl (Nat.le_of_ble_eq_true rfl) rfl ?_
  intro p e s m args below meth c H0 Q hC hret
  obtain ⟨q, hq⟩ : ∃ q, σ 89 2 = q := ⟨_, rfl⟩
  rw [hq] at ha
  have L8 : ∀ (n : Nat) (j v : Int), ((2 - j).toNat) = n → (0 ≤ j ∧ j ≤ 2) → (NPi σ q j v) → (0 ≤ v ∧ v ≤ 99) → wp p l e ({ frames := 1, cells := 0, slots := 0, locals := 20 } : Room) s m args below meth c (aA G (Array.size H0)) H0 5 Q G (put σ 89 2 (q + j)) 8 [(0, .ref (G.2.2 89)), (1, .int (zI (lo))), (2, .int (zI (hi))), (3, .int (zI (q))), (4, .int (zI (v)))] [] := by
    intro n8
    induction n8 using Nat.strongRecOn with
    | ind n8 ih =>
      intro j v hm8 h1 hn h2
      have hcr := cx_rng (q := q + j) hz hs
      have hat : put σ 89 2 (q + j) 89 2 = q + j := put_s
      have hsg : sgn (put σ 89 2 (q + j)) = cx σ (q + j) := by rw [sgn_ch (σ := put σ 89 2 (q + j)) hz (by rw [put_s]; omega), put_s]; rfl
      refine wp_aload_n hC dX7_readNumber_8 rfl ?_
      refine wp_geti (k := 2) (z := 2) hC rfl (rfl) (by decide) (rfl) (rfl) (by decide) uX7_readNumber_X7 fX7_readNumber_23 (rfl) dX7_readNumber_9 ?_
      refine wp_top (b := q + j) hat ?_
      refine wp_iload_n hC dX7_readNumber_12 rfl ?_
      refine wp_iconst hC dX7_readNumber_13 ?_
      refine wp_iadd hC dX7_readNumber_14 ?_
      refine wp_icmp_ge (tgt := 56) hC dX7_readNumber_15 (by decide) (by omega) (by omega) (fun c_15 => ?_) (fun c_15 => ?_)
      · refine wp_aload_n hC dX7_readNumber_56 rfl ?_
        refine wp_geti (k := 2) (z := 2) hC rfl (rfl) (by decide) (rfl) (rfl) (by decide) uX7_readNumber_X7 fX7_readNumber_23 (rfl) dX7_readNumber_57 ?_
        refine wp_top (b := q + j) hat ?_
        have hend : j = 2 ∨ ¬ (48 ≤ cx σ (q + j) ∧ cx σ (q + j) ≤ 57) := Or.inl (by omega)
        refine wp_iload_n hC dX7_readNumber_60 rfl ?_
        refine wp_icmp_eq (tgt := 76) hC dX7_readNumber_61 (by decide) (by omega) (by omega) (fun c_61 => ?_) (fun c_61 => ?_)
        · refine wp_aload_n hC dX7_readNumber_76 rfl ?_
          refine wp_iload_n hC dX7_readNumber_77 rfl ?_
          refine wp_puti2 (k := 3) (z := 3) hC rfl (rfl) (by decide) (rfl) (rfl) (by decide) uX7_readNumber_X7 fX7_readNumber_26 tyX7 tyX7_ok nmX7 rfl rfl (rfl) dX7_readNumber_78 ?_
          refine wp_iload hC dX7_readNumber_81 rfl ?_
          exact hret _ _ _ _ (by omega) rfl (RNB_n hq hn hend (Or.inl (by omega)) h2) dX7_readNumber_83
        · refine wp_iload hC dX7_readNumber_64 rfl ?_
          refine wp_iload_n hC dX7_readNumber_66 rfl ?_
          refine wp_icmp_lt (tgt := 76) hC dX7_readNumber_67 (by decide) (by omega) (by omega) (fun c_67 => ?_) (fun c_67 => ?_)
          · refine wp_aload_n hC dX7_readNumber_76 rfl ?_
            refine wp_iload_n hC dX7_readNumber_77 rfl ?_
            refine wp_puti2 (k := 3) (z := 3) hC rfl (rfl) (by decide) (rfl) (rfl) (by decide) uX7_readNumber_X7 fX7_readNumber_26 tyX7 tyX7_ok nmX7 rfl rfl (rfl) dX7_readNumber_78 ?_
            refine wp_iload hC dX7_readNumber_81 rfl ?_
            exact hret _ _ _ _ (by omega) rfl (RNB_n hq hn hend (Or.inr (by omega)) h2) dX7_readNumber_83
          · refine wp_iload hC dX7_readNumber_70 rfl ?_
            refine wp_iload_n hC dX7_readNumber_72 rfl ?_
            refine wp_icmp_le (tgt := 81) hC dX7_readNumber_73 (by decide) (by omega) (by omega) (fun c_73 => ?_) (fun c_73 => ?_)
            · refine wp_iload hC dX7_readNumber_81 rfl ?_
              exact hret _ _ _ _ (by omega) rfl (RNB_y hq hn hend (by omega) hlo.1 ⟨by omega, by omega⟩) dX7_readNumber_83
            · refine wp_aload_n hC dX7_readNumber_76 rfl ?_
              refine wp_iload_n hC dX7_readNumber_77 rfl ?_
              refine wp_puti2 (k := 3) (z := 3) hC rfl (rfl) (by decide) (rfl) (rfl) (by decide) uX7_readNumber_X7 fX7_readNumber_26 tyX7 tyX7_ok nmX7 rfl rfl (rfl) dX7_readNumber_78 ?_
              refine wp_iload hC dX7_readNumber_81 rfl ?_
              exact hret _ _ _ _ (by omega) rfl (RNB_n hq hn hend (Or.inr (by omega)) h2) dX7_readNumber_83
      · refine wp_aload_n hC dX7_readNumber_18 rfl ?_
        refine wp_callVe (As := []) hC (c_X7_sign hG (put σ 89 2 (q + j)) (show iR (σ 89 1) by omega) (show 0 ≤ put σ 89 2 (q + j) 89 2 ∧ put σ 89 2 (q + j) 89 2 ≤ 1000 by rw [hat]; omega) (fun k a b => by have := hs k a b; exact (show 0 ≤ σ 90 k ∧ σ 90 k < 65536 by omega))) gX7_readNumber_X7_sign rfl ⟨rfl, rfl⟩ ⟨by decide, by decide⟩ hyVX7_sign (rfl) (by decide) (rfl) rfl (Nat.le_of_ble_eq_true rfl) dX7_readNumber_19 (fun hx_19 => ?_)
        refine wp_top (b := cx σ (q + j)) hsg ?_
        refine wp_callSb (As := [_]) hC (c_X7_isFigure hG _ (ch := cx σ (q + j)) (by omega)) gX7_readNumber_X7_isFigure rfl ⟨rfl, rfl⟩ ⟨by decide, by decide⟩ hySX7_isFigure rfl (Nat.le_of_ble_eq_true rfl) dX7_readNumber_22 (fun hx_22 => ?_)
        refine wp_ifb_eq (tgt := 56) hC dX7_readNumber_25 (by decide) (fun c_25 => ?_) (fun c_25 => ?_)
        · refine wp_aload_n hC dX7_readNumber_56 rfl ?_
          refine wp_geti (k := 2) (z := 2) hC rfl (rfl) (by decide) (rfl) (rfl) (by decide) uX7_readNumber_X7 fX7_readNumber_23 (rfl) dX7_readNumber_57 ?_
          refine wp_top (b := q + j) hat ?_
          have hend : j = 2 ∨ ¬ (48 ≤ cx σ (q + j) ∧ cx σ (q + j) ≤ 57) := Or.inr c_25
          refine wp_iload_n hC dX7_readNumber_60 rfl ?_
          refine wp_icmp_eq (tgt := 76) hC dX7_readNumber_61 (by decide) (by omega) (by omega) (fun c_61 => ?_) (fun c_61 => ?_)
          · refine wp_aload_n hC dX7_readNumber_76 rfl ?_
            refine wp_iload_n hC dX7_readNumber_77 rfl ?_
            refine wp_puti2 (k := 3) (z := 3) hC rfl (rfl) (by decide) (rfl) (rfl) (by decide) uX7_readNumber_X7 fX7_readNumber_26 tyX7 tyX7_ok nmX7 rfl rfl (rfl) dX7_readNumber_78 ?_
            refine wp_iload hC dX7_readNumber_81 rfl ?_
            exact hret _ _ _ _ (by omega) rfl (RNB_n hq hn hend (Or.inl (by omega)) h2) dX7_readNumber_83
          · refine wp_iload hC dX7_readNumber_64 rfl ?_
            refine wp_iload_n hC dX7_readNumber_66 rfl ?_
            refine wp_icmp_lt (tgt := 76) hC dX7_readNumber_67 (by decide) (by omega) (by omega) (fun c_67 => ?_) (fun c_67 => ?_)
            · refine wp_aload_n hC dX7_readNumber_76 rfl ?_
              refine wp_iload_n hC dX7_readNumber_77 rfl ?_
              refine wp_puti2 (k := 3) (z := 3) hC rfl (rfl) (by decide) (rfl) (rfl) (by decide) uX7_readNumber_X7 fX7_readNumber_26 tyX7 tyX7_ok nmX7 rfl rfl (rfl) dX7_readNumber_78 ?_
              refine wp_iload hC dX7_readNumber_81 rfl ?_
              exact hret _ _ _ _ (by omega) rfl (RNB_n hq hn hend (Or.inr (by omega)) h2) dX7_readNumber_83
            · refine wp_iload hC dX7_readNumber_70 rfl ?_
              refine wp_iload_n hC dX7_readNumber_72 rfl ?_
              refine wp_icmp_le (tgt := 81) hC dX7_readNumber_73 (by decide) (by omega) (by omega) (fun c_73 => ?_) (fun c_73 => ?_)
              · refine wp_iload hC dX7_readNumber_81 rfl ?_
                exact hret _ _ _ _ (by omega) rfl (RNB_y hq hn hend (by omega) hlo.1 ⟨by omega, by omega⟩) dX7_readNumber_83
              · refine wp_aload_n hC dX7_readNumber_76 rfl ?_
                refine wp_iload_n hC dX7_readNumber_77 rfl ?_
                refine wp_puti2 (k := 3) (z := 3) hC rfl (rfl) (by decide) (rfl) (rfl) (by decide) uX7_readNumber_X7 fX7_readNumber_26 tyX7 tyX7_ok nmX7 rfl rfl (rfl) dX7_readNumber_78 ?_
                refine wp_iload hC dX7_readNumber_81 rfl ?_
                exact hret _ _ _ _ (by omega) rfl (RNB_n hq hn hend (Or.inr (by omega)) h2) dX7_readNumber_83
        · refine wp_iload hC dX7_readNumber_28 rfl ?_
          refine wp_bipush hC dX7_readNumber_30 rfl ?_
          refine wp_imul hC dX7_readNumber_32 ?_
          refine wp_aload_n hC dX7_readNumber_33 rfl ?_
          refine wp_callVe (As := []) hC (c_X7_sign hG (put σ 89 2 (q + j)) (show iR (σ 89 1) by omega) (show 0 ≤ put σ 89 2 (q + j) 89 2 ∧ put σ 89 2 (q + j) 89 2 ≤ 1000 by rw [hat]; omega) (fun k a b => by have := hs k a b; exact (show 0 ≤ σ 90 k ∧ σ 90 k < 65536 by omega))) gX7_readNumber_X7_sign rfl ⟨rfl, rfl⟩ ⟨by decide, by decide⟩ hyVX7_sign (rfl) (by decide) (rfl) rfl (Nat.le_of_ble_eq_true rfl) dX7_readNumber_34 (fun hx_34 => ?_)
          refine wp_top (b := cx σ (q + j)) hsg ?_
          refine wp_iadd hC dX7_readNumber_37 ?_
          refine wp_bipush hC dX7_readNumber_38 rfl ?_
          refine wp_isub hC dX7_readNumber_40 ?_
          refine wp_istore (lv2 := [(0, _), (1, _), (2, _), (3, _), (4, _)]) hC dX7_readNumber_41 rfl (by decide) ?_
          refine wp_aload_n hC dX7_readNumber_43 rfl ?_
          refine wp_dup hC dX7_readNumber_44 rfl ?_
          refine wp_geti (k := 2) (z := 2) hC rfl (rfl) (by decide) (rfl) (rfl) (by decide) uX7_readNumber_X7 fX7_readNumber_23 (rfl) dX7_readNumber_45 ?_
          refine wp_iconst hC dX7_readNumber_48 ?_
          refine wp_iadd hC dX7_readNumber_49 ?_
          refine wp_puti2 (k := 2) (z := 2) hC rfl (rfl) (by decide) (rfl) (rfl) (by decide) uX7_readNumber_X7 fX7_readNumber_23 tyX7 tyX7_ok nmX7 rfl rfl (rfl) dX7_readNumber_50 ?_
          refine wp_goto (tgt := 8) hC dX7_readNumber_53 (by decide) ?_
          refine wp_st (σ2 := put σ 89 2 (q + (j + 1))) (by rw [put_put, put_s, Int.add_assoc]) ?_
          exact ih _ (by omega) _ _ rfl (by omega) (by
            rcases hn with ⟨rfl, rfl⟩ | ⟨rfl, a, rfl⟩ | ⟨rfl, _⟩
            · rw [Int.add_zero] at c_25 ⊢; exact Or.inr (Or.inl ⟨rfl, c_25, by omega⟩)
            · exact Or.inr (Or.inr ⟨rfl, a, c_25, by omega⟩)
            · omega) (by rcases hn with ⟨rfl, rfl⟩ | ⟨rfl, a, rfl⟩ | ⟨rfl, _⟩ <;> omega)
  refine wp_aload_n hC dX7_readNumber_0 rfl ?_
  refine wp_geti (k := 2) (z := 2) hC rfl (rfl) (by decide) (rfl) (rfl) (by decide) uX7_readNumber_X7 fX7_readNumber_23 (rfl) dX7_readNumber_1 ?_
  refine wp_top (b := q) hq ?_
  refine wp_istore_n (lv2 := [(0, _), (1, _), (2, _), (3, _)]) hC dX7_readNumber_4 rfl (by decide) ?_
  refine wp_iconst hC dX7_readNumber_5 ?_
  refine wp_istore (lv2 := [(0, _), (1, _), (2, _), (3, _), (4, _)]) hC dX7_readNumber_6 rfl (by decide) ?_
  refine wp_st (σ2 := put σ 89 2 (q + 0)) (by rw [Int.add_zero]; exact (put_same hq).symm) ?_
  exact L8 _ 0 0 rfl (by omega) (Or.inl ⟨rfl, rfl⟩) (by omega)
