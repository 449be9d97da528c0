set_option maxHeartbeats 4000000 in
set_option maxRecDepth 100000 in
theorem x_J6_stringSize_0f7a4 {l : Launch} {D : va_G} {cl : List vw_C} {tys : List (ClassId × FieldType)} {cB : ClassId} {Z : Ky} {X : va_W} {v : Int} (hv : 0 ≤ v ∧ v ≤ 99) : MXi l yJ6_stringSize_0f7a4 wsJ6_stringSize_0f7a4 ({ frames := 0, cells := 0, slots := 0, locals := 0 } : Room) D cl tys cB Z [.int (zI (v))] X (fun x X2 => (fun x => x = if v < 10 then 1 else 2) x ∧ X2 = X) := by
  refine MXi.of (by decide +kernel) rfl rfl (Nat.le_of_ble_eq_true rfl) rfl ?_
  intro p e s m args below meth c Q hC hX hret
  refine wpw_iconst hC dJ6_stringSize_0f7a4_0 ?_
  refine wpw_istore_n (lv2 := [(0, _), (1, _)]) hC dJ6_stringSize_0f7a4_1 rfl (by decide) ?_
  refine wpw_iload_n hC dJ6_stringSize_0f7a4_2 rfl ?_
  refine wpw_if_lt (tgt := 11) hC dJ6_stringSize_0f7a4_3 (by decide) (by omega) (fun c_3 => ?_) (fun c_3 => ?_)
  · exfalso; omega
  · refine wpw_iconst hC dJ6_stringSize_0f7a4_6 ?_
    refine wpw_istore_n (lv2 := [(0, _), (1, _)]) hC dJ6_stringSize_0f7a4_7 rfl (by decide) ?_
    refine wpw_iload_n hC dJ6_stringSize_0f7a4_8 rfl ?_
    refine wpw_ineg hC dJ6_stringSize_0f7a4_9 ?_
    refine wpw_istore_n (lv2 := [(0, _), (1, _)]) hC dJ6_stringSize_0f7a4_10 rfl (by decide) ?_
    refine wpw_bipush hC dJ6_stringSize_0f7a4_11 rfl ?_
    refine wpw_istore_n (lv2 := [(0, _), (1, _), (2, _)]) hC dJ6_stringSize_0f7a4_13 rfl (by decide) ?_
    refine wpw_iconst hC dJ6_stringSize_0f7a4_14 ?_
    refine wpw_istore_n (lv2 := [(0, _), (1, _), (2, _), (3, _)]) hC dJ6_stringSize_0f7a4_15 rfl (by decide) ?_
    refine wpw_iload_n hC dJ6_stringSize_0f7a4_16 rfl ?_
    refine wpw_bipush hC dJ6_stringSize_0f7a4_17 rfl ?_
    refine wpw_icmp_ge (tgt := 42) hC dJ6_stringSize_0f7a4_19 (by decide) (by omega) (by omega) (fun c_19 => ?_) (fun c_19 => ?_)
    · exfalso; omega
    · refine wpw_iload_n hC dJ6_stringSize_0f7a4_22 rfl ?_
      refine wpw_iload_n hC dJ6_stringSize_0f7a4_23 rfl ?_
      refine wpw_icmp_le (tgt := 31) hC dJ6_stringSize_0f7a4_24 (by decide) (by omega) (by omega) (fun c_24 => ?_) (fun c_24 => ?_)
      · refine wpw_bipush hC dJ6_stringSize_0f7a4_31 rfl ?_
        refine wpw_iload_n hC dJ6_stringSize_0f7a4_33 rfl ?_
        refine wpw_imul hC dJ6_stringSize_0f7a4_34 ?_
        refine wpw_istore_n (lv2 := [(0, _), (1, _), (2, _), (3, _)]) hC dJ6_stringSize_0f7a4_35 rfl (by decide) ?_
        refine wpw_iinc (lv2 := [(0, _), (1, _), (2, _), (3, _)]) hC dJ6_stringSize_0f7a4_36 rfl rfl (by decide) ?_
        refine wpw_goto (tgt := 16) hC dJ6_stringSize_0f7a4_39 (by decide) ?_
        refine wpw_iload_n hC dJ6_stringSize_0f7a4_16 rfl ?_
        refine wpw_bipush hC dJ6_stringSize_0f7a4_17 rfl ?_
        refine wpw_icmp_ge (tgt := 42) hC dJ6_stringSize_0f7a4_19 (by decide) (by omega) (by omega) (fun c_19 => ?_) (fun c_19 => ?_)
        · exfalso; omega
        · refine wpw_iload_n hC dJ6_stringSize_0f7a4_22 rfl ?_
          refine wpw_iload_n hC dJ6_stringSize_0f7a4_23 rfl ?_
          refine wpw_icmp_le (tgt := 31) hC dJ6_stringSize_0f7a4_24 (by decide) (by omega) (by omega) (fun c_24 => ?_) (fun c_24 => ?_)
          · exfalso; omega
          · refine wpw_iload_n hC dJ6_stringSize_0f7a4_27 rfl ?_
            refine wpw_iload_n hC dJ6_stringSize_0f7a4_28 rfl ?_
            refine wpw_iadd hC dJ6_stringSize_0f7a4_29 ?_
            exact hret _ _ _ _ (by omega) rfl (⟨by rw [if_neg (by omega)]; rfl, rfl⟩) dJ6_stringSize_0f7a4_30
      · refine wpw_iload_n hC dJ6_stringSize_0f7a4_27 rfl ?_
        refine wpw_iload_n hC dJ6_stringSize_0f7a4_28 rfl ?_
        refine wpw_iadd hC dJ6_stringSize_0f7a4_29 ?_
        exact hret _ _ _ _ (by omega) rfl (⟨by rw [if_pos (by omega)]; rfl, rfl⟩) dJ6_stringSize_0f7a4_30

set_option maxHeartbeats 4000000 in
set_option maxRecDepth 100000 in
theorem x_J1_canEncode_fc78d {l : Launch} {D : va_G} {cl : List vw_C} {tys : List (ClassId × FieldType)} {cB : ClassId} {Z : Ky} {X : va_W} {v : Int} (hv : 0 ≤ v ∧ v ≤ 255) : MXi l yJ1_canEncode_fc78d wsJ1_canEncode_fc78d ({ frames := 0, cells := 0, slots := 0, locals := 0 } : Room) D cl tys cB Z [.int (zI (v))] X (fun x X2 => (fun x => x = 1) x ∧ X2 = X) := by
  refine MXi.of (by decide +kernel) rfl rfl (Nat.le_of_ble_eq_true rfl) rfl ?_
  intro p e s m args below meth c Q hC hX hret
  refine wpw_iload_n hC dJ1_canEncode_fc78d_0 rfl ?_
  refine wpw_sipush hC dJ1_canEncode_fc78d_1 rfl ?_
  refine wpw_icmp_gt (tgt := 11) hC dJ1_canEncode_fc78d_4 (by decide) (by omega) (by omega) (fun c_4 => ?_) (fun c_4 => ?_)
  · exfalso; omega
  · refine wpw_iconst hC dJ1_canEncode_fc78d_7 ?_
    refine wpw_goto (tgt := 12) hC dJ1_canEncode_fc78d_8 (by decide) ?_
    exact hret _ _ _ _ (by omega) rfl (⟨rfl, rfl⟩) dJ1_canEncode_fc78d_12
