theorem hySJ6_stringSize_0f7a4 : yJ6_stringSize_0f7a4.cls ≠ "java/lang/invoke/MethodHandle" ∧ yJ6_stringSize_0f7a4.cls ≠ "java/lang/invoke/VarHandle" ∧ (parseMethodDescriptor yJ6_stringSize_0f7a4.desc).map (fun d => d.parameters.length) = some 1 := by decide +kernel
set_option maxHeartbeats 4000000 in
set_option maxRecDepth 100000 in
theorem c_J6_stringSize_0f7a4 {l : Launch} {G : Gy} (hG : Inj G) (σ : St) {v : Int} (hv : 0 ≤ v ∧ v ≤ 99) : MP l yJ6_stringSize_0f7a4 wsJ6_stringSize_0f7a4 ({ frames := 0, cells := 0, slots := 0, locals := 0 } : Room) G [.int (zI (v))] σ (fun x => x = if v < 10 then 1 else 2)  := by
  refine MI.of hG (by decide +kernel) rfl rfl (Nat.le_of_ble_eq_true rfl) rfl ?_
  intro p e s m args below meth c H0 Q hC hret
  refine wp_iconst hC dJ6_stringSize_0f7a4_0 ?_
  refine wp_istore_n (lv2 := [(0, _), (1, _)]) hC dJ6_stringSize_0f7a4_1 rfl (by decide) ?_
  refine wp_iload_n hC dJ6_stringSize_0f7a4_2 rfl ?_
  refine wp_if_lt (tgt := 11) hC dJ6_stringSize_0f7a4_3 (by decide) (by omega) (fun c_3 => ?_) (fun c_3 => ?_)
  · exfalso; omega
  · refine wp_iconst hC dJ6_stringSize_0f7a4_6 ?_
    refine wp_istore_n (lv2 := [(0, _), (1, _)]) hC dJ6_stringSize_0f7a4_7 rfl (by decide) ?_
    refine wp_iload_n hC dJ6_stringSize_0f7a4_8 rfl ?_
    refine wp_ineg hC dJ6_stringSize_0f7a4_9 ?_
    refine wp_istore_n (lv2 := [(0, _), (1, _)]) hC dJ6_stringSize_0f7a4_10 rfl (by decide) ?_
    refine wp_bipush hC dJ6_stringSize_0f7a4_11 rfl ?_
    refine wp_istore_n (lv2 := [(0, _), (1, _), (2, _)]) hC dJ6_stringSize_0f7a4_13 rfl (by decide) ?_
    refine wp_iconst hC dJ6_stringSize_0f7a4_14 ?_
    refine wp_istore_n (lv2 := [(0, _), (1, _), (2, _), (3, _)]) hC dJ6_stringSize_0f7a4_15 rfl (by decide) ?_
    refine wp_iload_n hC dJ6_stringSize_0f7a4_16 rfl ?_
    refine wp_bipush hC dJ6_stringSize_0f7a4_17 rfl ?_
    refine wp_icmp_ge (tgt := 42) hC dJ6_stringSize_0f7a4_19 (by decide) (by omega) (by omega) (fun c_19 => ?_) (fun c_19 => ?_)
    · exfalso; omega
    · refine wp_iload_n hC dJ6_stringSize_0f7a4_22 rfl ?_
      refine wp_iload_n hC dJ6_stringSize_0f7a4_23 rfl ?_
      refine wp_icmp_le (tgt := 31) hC dJ6_stringSize_0f7a4_24 (by decide) (by omega) (by omega) (fun c_24 => ?_) (fun c_24 => ?_)
      · refine wp_bipush hC dJ6_stringSize_0f7a4_31 rfl ?_
        refine wp_iload_n hC dJ6_stringSize_0f7a4_33 rfl ?_
        refine wp_imul hC dJ6_stringSize_0f7a4_34 ?_
        refine wp_istore_n (lv2 := [(0, _), (1, _), (2, _), (3, _)]) hC dJ6_stringSize_0f7a4_35 rfl (by decide) ?_
        refine wp_iinc (lv2 := [(0, _), (1, _), (2, _), (3, _)]) hC dJ6_stringSize_0f7a4_36 rfl rfl (by decide) ?_
        refine wp_goto (tgt := 16) hC dJ6_stringSize_0f7a4_39 (by decide) ?_
        refine wp_iload_n hC dJ6_stringSize_0f7a4_16 rfl ?_
        refine wp_bipush hC dJ6_stringSize_0f7a4_17 rfl ?_
        refine wp_icmp_ge (tgt := 42) hC dJ6_stringSize_0f7a4_19 (by decide) (by omega) (by omega) (fun c_19 => ?_) (fun c_19 => ?_)
        · exfalso; omega
        · refine wp_iload_n hC dJ6_stringSize_0f7a4_22 rfl ?_
          refine wp_iload_n hC dJ6_stringSize_0f7a4_23 rfl ?_
          refine wp_icmp_le (tgt := 31) hC dJ6_stringSize_0f7a4_24 (by decide) (by omega) (by omega) (fun c_24 => ?_) (fun c_24 => ?_)
          · exfalso; omega
          · refine wp_iload_n hC dJ6_stringSize_0f7a4_27 rfl ?_
            refine wp_iload_n hC dJ6_stringSize_0f7a4_28 rfl ?_
            refine wp_iadd hC dJ6_stringSize_0f7a4_29 ?_
            exact hret _ _ _ _ (by omega) rfl (⟨by rw [if_neg (by omega)]; rfl, rfl⟩) dJ6_stringSize_0f7a4_30
      · refine wp_iload_n hC dJ6_stringSize_0f7a4_27 rfl ?_
        refine wp_iload_n hC dJ6_stringSize_0f7a4_28 rfl ?_
        refine wp_iadd hC dJ6_stringSize_0f7a4_29 ?_
        exact hret _ _ _ _ (by omega) rfl (⟨by rw [if_pos (by omega)]; rfl, rfl⟩) dJ6_stringSize_0f7a4_30

theorem hySJ1_canEncode_fc78d : yJ1_canEncode_fc78d.cls ≠ "java/lang/invoke/MethodHandle" ∧ yJ1_canEncode_fc78d.cls ≠ "java/lang/invoke/VarHandle" ∧ (parseMethodDescriptor yJ1_canEncode_fc78d.desc).map (fun d => d.parameters.length) = some 1 := by decide +kernel
set_option maxHeartbeats 4000000 in
set_option maxRecDepth 100000 in
theorem c_J1_canEncode_fc78d {l : Launch} {G : Gy} (hG : Inj G) (σ : St) {v : Int} (hv : 0 ≤ v ∧ v ≤ 255) : MP l yJ1_canEncode_fc78d wsJ1_canEncode_fc78d ({ frames := 0, cells := 0, slots := 0, locals := 0 } : Room) G [.int (zI (v))] σ (fun x => x = 1)  := by
  refine MI.of hG (by decide +kernel) rfl rfl (Nat.le_of_ble_eq_true rfl) rfl ?_
  intro p e s m args below meth c H0 Q hC hret
  refine wp_iload_n hC dJ1_canEncode_fc78d_0 rfl ?_
  refine wp_sipush hC dJ1_canEncode_fc78d_1 rfl ?_
  refine wp_icmp_gt (tgt := 11) hC dJ1_canEncode_fc78d_4 (by decide) (by omega) (by omega) (fun c_4 => ?_) (fun c_4 => ?_)
  · exfalso; omega
  · refine wp_iconst hC dJ1_canEncode_fc78d_7 ?_
    refine wp_goto (tgt := 12) hC dJ1_canEncode_fc78d_8 (by decide) ?_
    exact hret _ _ _ _ (by omega) rfl (⟨rfl, rfl⟩) dJ1_canEncode_fc78d_12

theorem hySJ8_newLength_cabcc : yJ8_newLength_cabcc.cls ≠ "java/lang/invoke/MethodHandle" ∧ yJ8_newLength_cabcc.cls ≠ "java/lang/invoke/VarHandle" ∧ (parseMethodDescriptor yJ8_newLength_cabcc.desc).map (fun d => d.parameters.length) = some 3 := by decide +kernel
set_option maxHeartbeats 4000000 in
set_option maxRecDepth 100000 in
theorem c_J8_newLength_cabcc {l : Launch} {G : Gy} (hG : Inj G) (σ : St) {a b c1 : Int} (ha : 0 ≤ a ∧ a ≤ 1000) (hb : 0 ≤ b ∧ b ≤ 1000) (hc : 1 ≤ c1 ∧ c1 ≤ 2000) : MP l yJ8_newLength_cabcc wsJ8_newLength_cabcc ({ frames := 1, cells := 0, slots := 0, locals := 14 } : Room) G [.int (zI (a)), .int (zI (b)), .int (zI (c1))] σ (fun x => x = a + max b c1)  := by
  refine MI.of hG (by decide +kernel) rfl rfl (Nat.le_of_ble_eq_true rfl) rfl ?_
  intro p e s m args below meth c H0 Q hC hret
  refine wp_iload_n hC dJ8_newLength_cabcc_0 rfl ?_
  refine wp_iload_n hC dJ8_newLength_cabcc_1 rfl ?_
  refine wp_iload_n hC dJ8_newLength_cabcc_2 rfl ?_
  refine wp_mmax hC (by decide +kernel) (by decide +kernel) (by decide +kernel) (by decide +kernel) (Nat.le_of_ble_eq_true rfl) (Nat.le_of_ble_eq_true rfl) (by omega) (by omega) dJ8_newLength_cabcc_3 ?_
  refine wp_iadd hC dJ8_newLength_cabcc_6 ?_
  refine wp_istore_n (lv2 := [(0, _), (1, _), (2, _), (3, _)]) hC dJ8_newLength_cabcc_7 rfl (by decide) ?_
  refine wp_iconst hC dJ8_newLength_cabcc_8 ?_
  refine wp_iload_n hC dJ8_newLength_cabcc_9 rfl ?_
  refine wp_icmp_ge (tgt := 21) hC dJ8_newLength_cabcc_10 (by decide) (by omega) (by omega) (fun c_10 => ?_) (fun c_10 => ?_)
  · exfalso; omega
  · refine wp_iload_n hC dJ8_newLength_cabcc_13 rfl ?_
    refine wp_ldc (n := 2147483639) hC dJ8_newLength_cabcc_14 (by decide +kernel) ?_
    refine wp_icmp_gt (tgt := 21) hC dJ8_newLength_cabcc_16 (by decide) (by omega) (by omega) (fun c_16 => ?_) (fun c_16 => ?_)
    · exfalso; omega
    · refine wp_iload_n hC dJ8_newLength_cabcc_19 rfl ?_
      exact hret _ _ _ _ (by omega) rfl (⟨rfl, rfl⟩) dJ8_newLength_cabcc_20
