theorem hzTJ0_coder_7d493 : yJ0_coder_7d493.cls = RJ0 ∧ yJ0_coder_7d493.cls ≠ "java/lang/invoke/MethodHandle" ∧ yJ0_coder_7d493.cls ≠ "java/lang/invoke/VarHandle" ∧ (parseMethodDescriptor yJ0_coder_7d493.desc).map (fun d => d.parameters.length) = some 0 := by decide +kernel
theorem hzTJ0_length_8abf5 : yJ0_length_8abf5.cls = RJ0 ∧ yJ0_length_8abf5.cls ≠ "java/lang/invoke/MethodHandle" ∧ yJ0_length_8abf5.cls ≠ "java/lang/invoke/VarHandle" ∧ (parseMethodDescriptor yJ0_length_8abf5.desc).map (fun d => d.parameters.length) = some 0 := by decide +kernel
theorem hzTJ0_getBytes_840e7 : yJ0_getBytes_840e7.cls = RJ0 ∧ yJ0_getBytes_840e7.cls ≠ "java/lang/invoke/MethodHandle" ∧ yJ0_getBytes_840e7.cls ≠ "java/lang/invoke/VarHandle" ∧ (parseMethodDescriptor yJ0_getBytes_840e7.desc).map (fun d => d.parameters.length) = some 3 := by decide +kernel

set_option maxHeartbeats 4000000 in
set_option maxRecDepth 100000 in
theorem x_J0_coder {l : Launch} {D : va_G} {cl : List vw_C} {tys : List (ClassId × FieldType)} {cB : ClassId} {Z : Ky} {X : va_W} {i : Nat} (hi : i < 4) : MXi l yJ0_coder_7d493 wsJ0_coder_7d493 ({ frames := 0, cells := 0, slots := 0, locals := 0 } : Room) D cl tys cB Z [.ref (Z.1 i)] X (fun x X2 => x = 0 ∧ X2 = X) := by
  refine MXi.of (by decide +kernel) rfl rfl (Nat.le_of_ble_eq_true rfl) rfl ?_
  intro p e s m args below meth c Q hC hX hret
  refine wpw_getst (v := .int (zI 1)) hC hX.2.1.2.2.1 (by decide +kernel) dJ0_coder_7d493_0 ?_
  refine wpw_if_eq (tgt := 13) hC dJ0_coder_7d493_3 (by decide) ⟨by decide, by decide⟩ (fun c_3 => absurd c_3 (by decide)) (fun c_3 => ?_)
  refine wpw_aload_n hC dJ0_coder_7d493_6 rfl ?_
  refine wpw_getS (v := .int (zI 0)) hC (hX.2.1.1.1 i hi).2.1 (by decide +kernel) dJ0_coder_7d493_7 ?_
  refine wpw_goto (tgt := 14) hC dJ0_coder_7d493_10 (by decide) ?_
  exact hret _ _ _ _ ⟨by decide, by decide⟩ rfl ⟨rfl, rfl⟩ dJ0_coder_7d493_14

set_option maxHeartbeats 4000000 in
set_option maxRecDepth 100000 in
theorem x_J0_length {l : Launch} {D : va_G} {cl : List vw_C} {tys : List (ClassId × FieldType)} {cB : ClassId} {Z : Ky} {X : va_W} {i : Nat} (hi : i < 4) : MXi l yJ0_length_8abf5 wsJ0_length_8abf5 ({ frames := 1, cells := 0, slots := 0, locals := 20 } : Room) D cl tys cB Z [.ref (Z.1 i)] X (fun x X2 => x = lenS.getD i 0 ∧ X2 = X) := by
  refine MXi.of (by decide +kernel) rfl rfl (Nat.le_of_ble_eq_true rfl) rfl ?_
  intro p e s m args below meth c Q hC hX hret
  have hL := lenS_at i hi
  refine wpw_aload_n hC dJ0_length_8abf5_0 rfl ?_
  refine wpw_getS hC (hX.2.1.1.1 i hi).2.2.1 (by decide +kernel) dJ0_length_8abf5_1 ?_
  refine wpw_tlen hC (hX.2.1.1.1 i hi).2.2.2 dJ0_length_8abf5_4 ?_
  refine wpw_aload_n hC dJ0_length_8abf5_5 rfl ?_
  refine wpw_callTi (As := []) hC hX (x_J0_coder hi) gJ0_length_8abf5_J0_coder_7d493 rfl ⟨by decide, by decide⟩ ⟨by decide, by decide⟩ hi hzTJ0_coder_7d493 rfl (Nat.le_of_ble_eq_true rfl) dJ0_length_8abf5_6 (fun x_6 Y_6 hx_6 hp_6 => ?_)
  obtain ⟨rfl, eY_6⟩ := hp_6
  have eY_6 := eY_6.symm
  subst eY_6
  refine wpw_ishr hC dJ0_length_8abf5_9 ?_
  refine wpw_top hL.1 ?_
  exact hret _ _ _ _ ⟨by omega, by omega⟩ rfl ⟨rfl, rfl⟩ dJ0_length_8abf5_10

theorem bytS_fit : ∀ i, i < 4 → ∀ q, q < lenS.getD i 0 → fits .byte (.int ((bytS.getD i []).getD q 0)) = true := by decide +kernel
theorem bytS_wd : ∀ i, i < 4 → (wdL i).length = lenS.getD i 0 ∧ lenS.getD i 0 ≤ 8 ∧ ∀ q, q < lenS.getD i 0 → (bytS.getD i []).getD q 0 = zI ((wdL i).getD q 0) ∧ 0 ≤ (wdL i).getD q 0 ∧ (wdL i).getD q 0 < 128 := by decide +kernel

set_option maxHeartbeats 4000000 in
set_option maxRecDepth 100000 in
theorem x_J0_getBytes {l : Launch} {D : va_G} {cl : List vw_C} {tys : List (ClassId × FieldType)} {cB : ClassId} {Z : Ky} {X : va_W} {i j t b cap : Nat} {f : Nat → Int32} {x : Int} (hi : i < 4) (ht : tys[t]? = some (cB, .byte)) (he : X[j]? = some (b, .inl (cB, cap, .inl f))) (hc : cap ≤ 150) (hx : 0 ≤ x ∧ x + lenS.getD i 0 ≤ cap) : MXv l yJ0_getBytes_840e7 wsJ0_getBytes_840e7 ({ frames := 1, cells := 0, slots := 0, locals := 40 } : Room) D cl tys cB Z [.ref (Z.1 i), .ref b, .int (zI x), .int (zI 0)] X (fun X2 => X2 = X.set j (b, .inl (cB, cap, .inl (va_cpy (fun q => (bytS.getD i []).getD q 0) f 0 x.toNat (lenS.getD i 0))))) := by
  refine MXv.of (by decide +kernel) rfl rfl (Nat.le_of_ble_eq_true rfl) rfl ?_
  intro p e s m args below meth c Q hC hX hret
  have hL := (lenS_at i hi).2
  obtain ⟨k, rfl⟩ := Int.eq_ofNat_of_zero_le hx.1
  refine wpw_aload_n hC dJ0_getBytes_840e7_0 rfl ?_
  refine wpw_callTi (As := []) hC hX (x_J0_coder hi) gJ0_getBytes_840e7_J0_coder_7d493 rfl ⟨by decide, by decide⟩ ⟨by decide, by decide⟩ hi hzTJ0_coder_7d493 rfl (Nat.le_of_ble_eq_true rfl) dJ0_getBytes_840e7_1 (fun x_1 Y_1 hx_1 hp_1 => ?_)
  obtain ⟨rfl, eY_1⟩ := hp_1
  have eY_1 := eY_1.symm
  subst eY_1
  refine wpw_iload_n hC dJ0_getBytes_840e7_4 rfl ?_
  refine wpw_icmp_ne (tgt := 28) hC dJ0_getBytes_840e7_5 (by decide) ⟨by decide, by decide⟩ ⟨by decide, by decide⟩ (fun c_5 => absurd rfl c_5) (fun c_5 => ?_)
  refine wpw_aload_n hC dJ0_getBytes_840e7_8 rfl ?_
  refine wpw_getS hC (hX.2.1.1.1 i hi).2.2.1 (by decide +kernel) dJ0_getBytes_840e7_9 ?_
  refine wpw_iconst hC dJ0_getBytes_840e7_12 ?_
  refine wpw_aload_n hC dJ0_getBytes_840e7_13 rfl ?_
  refine wpw_iload_n hC dJ0_getBytes_840e7_14 rfl ?_
  refine wpw_iload_n hC dJ0_getBytes_840e7_15 rfl ?_
  refine wpw_ishl hC dJ0_getBytes_840e7_16 ?_
  refine wpw_top (b := (k : Int)) (sh_0 k (by omega)).1 ?_
  refine wpw_aload_n hC dJ0_getBytes_840e7_17 rfl ?_
  refine wpw_getS hC (hX.2.1.1.1 i hi).2.2.1 (by decide +kernel) dJ0_getBytes_840e7_18 ?_
  refine wpw_tlen hC (hX.2.1.1.1 i hi).2.2.2 dJ0_getBytes_840e7_21 ?_
  refine wpw_copyt hC (hX.2.1.1.1 i hi).2.2.2 he ht ⟨by omega, by omega⟩ ⟨by omega, by omega, by omega, by omega⟩ (bytS_fit i hi) (by decide +kernel) (by decide +kernel) (by decide +kernel) (by decide +kernel) (Nat.le_of_ble_eq_true rfl) (Nat.le_of_ble_eq_true rfl) rfl dJ0_getBytes_840e7_22 ?_
  refine wpw_goto (tgt := 43) hC dJ0_getBytes_840e7_25 (by decide) ?_
  exact hret _ _ _ (by rw [Int.toNat_natCast, Int.toNat_natCast]) dJ0_getBytes_840e7_43

theorem hzUJ5_inflateIfNeededFor_a7421 : "java/lang/AbstractStringBuilder" ≠ "java/lang/invoke/MethodHandle" ∧ "java/lang/AbstractStringBuilder" ≠ "java/lang/invoke/VarHandle" ∧ (parseMethodDescriptor "(Ljava/lang/String;)V").map (fun d => d.parameters.length) = some 1 := by decide +kernel

set_option maxHeartbeats 4000000 in
set_option maxRecDepth 100000 in
theorem x_J5_inflateIf {l : Launch} {D : va_G} {cl : List vw_C} {tys : List (ClassId × FieldType)} {cB : ClassId} {Z : Ky} {X : va_W} {q cap i : Nat} {L : List Int} (hi : i < 4) (hcl : cl[0]? = some (RJ4, TJ4, 4)) (h : SBd cB X q L cap) : MXv l yJ5_inflateIfNeededFor_a7421 wsJ5_inflateIfNeededFor_a7421 ({ frames := 1, cells := 0, slots := 0, locals := 20 } : Room) D cl tys cB Z [.ref q, .ref (Z.1 i)] X (fun X2 => X2 = X) := by
  refine MXv.of (by decide +kernel) rfl rfl (Nat.le_of_ble_eq_true rfl) rfl ?_
  intro p e s m args below meth c Q hC hX hret
  obtain ⟨hn, hcap, j, b, f, ml, h0, he1, he2, hf, hL⟩ := id h
  refine wpw_getst (v := .int (zI 1)) hC hX.2.1.2.2.1 (by decide +kernel) dJ5_inflateIfNeededFor_a7421_0 ?_
  refine wpw_if_eq (tgt := 21) hC dJ5_inflateIfNeededFor_a7421_3 (by decide) ⟨by decide, by decide⟩ (fun c_3 => absurd c_3 (by decide)) (fun c_3 => ?_)
  refine wpw_aload_n hC dJ5_inflateIfNeededFor_a7421_6 rfl ?_
  refine wpw_get (i := 0) (k := 1) (T := TJ4) (v := .int (zI 0)) hC he1 hcl (by decide) (by decide +kernel) (by decide +kernel) rfl dJ5_inflateIfNeededFor_a7421_7 ?_
  refine wpw_aload_n hC dJ5_inflateIfNeededFor_a7421_10 rfl ?_
  refine wpw_callTi (As := []) hC hX (x_J0_coder hi) gJ5_inflateIfNeededFor_a7421_J0_coder_7d493 rfl ⟨by decide, by decide⟩ ⟨by decide, by decide⟩ hi hzTJ0_coder_7d493 rfl (Nat.le_of_ble_eq_true rfl) dJ5_inflateIfNeededFor_a7421_11 (fun x_11 Y_11 hx_11 hp_11 => ?_)
  obtain ⟨rfl, eY_11⟩ := hp_11
  have eY_11 := eY_11.symm
  subst eY_11
  refine wpw_icmp_eq (tgt := 21) hC dJ5_inflateIfNeededFor_a7421_14 (by decide) ⟨by decide, by decide⟩ ⟨by decide, by decide⟩ (fun c_14 => ?_) (fun c_14 => absurd rfl c_14)
  exact hret _ _ _ rfl dJ5_inflateIfNeededFor_a7421_21

theorem hzUJ5_putStringAt_47b60 : "java/lang/AbstractStringBuilder" ≠ "java/lang/invoke/MethodHandle" ∧ "java/lang/AbstractStringBuilder" ≠ "java/lang/invoke/VarHandle" ∧ (parseMethodDescriptor "(ILjava/lang/String;)V").map (fun d => d.parameters.length) = some 2 := by decide +kernel

set_option maxHeartbeats 4000000 in
set_option maxRecDepth 100000 in
theorem x_J5_putS {l : Launch} {D : va_G} {cl : List vw_C} {tys : List (ClassId × FieldType)} {cB : ClassId} {Z : Ky} {X : va_W} {q cap i j b t : Nat} {f : Nat → Int32} {ml : Int} {x : Int} {L : List Int} (hi : i < 4) (hcl : cl[0]? = some (RJ4, TJ4, 4)) (ht : tys[t]? = some (cB, .byte)) (h : SBd cB X q L cap) (he1 : X[0]? = some (q, .inr (0, [.ref b, .int (zI 0), .int (zI ml), .int (zI L.length)]))) (he2 : X[j]? = some (b, .inl (cB, cap, .inl f))) (hx : 0 ≤ x ∧ x + lenS.getD i 0 ≤ cap) : MXv l yJ5_putStringAt_47b60 wsJ5_putStringAt_47b60 ({ frames := 2, cells := 0, slots := 0, locals := 70 } : Room) D cl tys cB Z [.ref q, .int (zI x), .ref (Z.1 i)] X (fun X2 => X2 = X.set j (b, .inl (cB, cap, .inl (va_cpy (fun q => (bytS.getD i []).getD q 0) f 0 x.toNat (lenS.getD i 0))))) := by
  refine MXv.of (by decide +kernel) rfl rfl (Nat.le_of_ble_eq_true rfl) rfl ?_
  intro p e s m args below meth c Q hC hX hret
  have hcap := h.2.1
  refine wpw_aload_n hC dJ5_putStringAt_47b60_0 rfl ?_
  refine wpw_aload_n hC dJ5_putStringAt_47b60_1 rfl ?_
  refine wpw_callUv (As := [_]) hC hX (x_J5_inflateIf hi hcl h) gJ5_putStringAt_47b60_J5_inflateIfNeededFor_a7421_u397J4 rfl ⟨by decide, by decide⟩ ⟨by decide, by decide⟩ rfl hzUJ5_inflateIfNeededFor_a7421 he1 hcl rfl (Nat.le_of_ble_eq_true rfl) dJ5_putStringAt_47b60_2 (fun Y_2 hp_2 => ?_)
  have hp_2 := hp_2.symm
  subst hp_2
  refine wpw_aload_n hC dJ5_putStringAt_47b60_5 rfl ?_
  refine wpw_aload_n hC dJ5_putStringAt_47b60_6 rfl ?_
  refine wpw_get (i := 0) (k := 0) (T := TJ4) hC he1 hcl (by decide) (by decide +kernel) (by decide +kernel) rfl dJ5_putStringAt_47b60_7 ?_
  refine wpw_iload_n hC dJ5_putStringAt_47b60_10 rfl ?_
  refine wpw_aload_n hC dJ5_putStringAt_47b60_11 rfl ?_
  refine wpw_get (i := 0) (k := 1) (T := TJ4) (v := .int (zI 0)) hC he1 hcl (by decide) (by decide +kernel) (by decide +kernel) rfl dJ5_putStringAt_47b60_12 ?_
  refine wpw_callTv (As := [_, _, _]) hC hX (x_J0_getBytes hi ht he2 hcap hx) gJ5_putStringAt_47b60_J0_getBytes_840e7 rfl ⟨by decide, by decide⟩ ⟨by decide, by decide⟩ hi hzTJ0_getBytes_840e7 rfl (Nat.le_of_ble_eq_true rfl) dJ5_putStringAt_47b60_15 (fun Y_15 hp_15 => ?_)
  subst hp_15
  exact hret _ _ _ rfl dJ5_putStringAt_47b60_18

theorem wd_ok {f : Nat → Int32} {L : List Int} {i : Nat} (hi : i < 4) (hL : ∀ k, k < L.length → f k = zI (L.getD k 0) ∧ 0 ≤ L.getD k 0 ∧ L.getD k 0 < 128) : ∀ k, k < (L ++ wdL i).length → va_cpy (fun q => (bytS.getD i []).getD q 0) f 0 L.length (lenS.getD i 0) k = zI ((L ++ wdL i).getD k 0) ∧ 0 ≤ (L ++ wdL i).getD k 0 ∧ (L ++ wdL i).getD k 0 < 128 := fun k hk => by
  obtain ⟨w1, w2, w3⟩ := bytS_wd i hi
  rw [List.length_append, w1] at hk
  unfold va_cpy
  by_cases e : L.length ≤ k
  · have e2 : (L ++ wdL i).getD k 0 = (wdL i).getD (k - L.length) 0 := by simp only [List.getD]; rw [List.getElem?_append_right e]
    rw [if_pos ⟨e, by omega⟩, e2, Nat.zero_add]
    exact w3 _ (by omega)
  · have e2 : (L ++ wdL i).getD k 0 = L.getD k 0 := by simp only [List.getD]; rw [List.getElem?_append_left (by omega)]
    rw [if_neg (by omega), e2]
    exact hL k (by omega)
theorem fits_wd {f : Nat → Int32} {i a n : Nat} (hi : i < 4) (hn : n = lenS.getD i 0) (h : ∀ k, fits .byte (.int (f k)) = true) : ∀ k, fits .byte (.int (va_cpy (fun q => (bytS.getD i []).getD q 0) f 0 a n k)) = true := fun k => by
  subst hn
  unfold va_cpy
  split
  · exact bytS_fit i hi _ (by omega)
  · exact h _

set_option maxHeartbeats 4000000 in
set_option maxRecDepth 100000 in
theorem x_J5_appendS {l : Launch} {D : va_G} {cl : List vw_C} {tys : List (ClassId × FieldType)} {cB : ClassId} {Z : Ky} {X : va_W} {q cap t i : Nat} {L : List Int} (hi : i < 4) (hcl : cl[0]? = some (RJ4, TJ4, 4)) (ht : tys[t]? = some (cB, .byte)) (h : SBd cB X q L cap) (hl : L.length ≤ 50) : MXr l yJ5_append_cf1ce wsJ5_append_cf1ce ({ frames := 4, cells := 1, slots := 200, locals := 130 } : Room) D cl tys cB Z [.ref q, .ref (Z.1 i)] X (fun r X2 => r = q ∧ ∃ cap2 : Nat, SBd cB X2 q (L ++ wdL i) cap2) := by
  refine MXr.of (Or.inl ⟨_, rfl⟩) (by decide +kernel) rfl rfl (Nat.le_of_ble_eq_true rfl) rfl ?_
  intro p e s m args below meth c Q hC hX hret
  obtain ⟨hn, hcap, j, b, f, ml, h0, he1, he2, hf, hL⟩ := id h
  obtain ⟨w1, w2, w3⟩ := bytS_wd i hi
  have w4 := (lenS_at i hi).2.1
  refine wpw_aload_n hC dJ5_append_cf1ce_0 rfl ?_
  refine wpw_ifnn (tgt := 9) hC dJ5_append_cf1ce_1 (by decide) ?_
  refine wpw_aload_n hC dJ5_append_cf1ce_9 rfl ?_
  refine wpw_callTi (As := []) hC hX (x_J0_length hi) gJ5_append_cf1ce_J0_length_8abf5 rfl ⟨by decide, by decide⟩ ⟨by decide, by decide⟩ hi hzTJ0_length_8abf5 rfl (Nat.le_of_ble_eq_true rfl) dJ5_append_cf1ce_10 (fun x_10 Y_10 hx_10 hp_10 => ?_)
  obtain ⟨rfl, eY_10⟩ := hp_10
  have eY_10 := eY_10.symm
  subst eY_10
  refine wpw_istore_n (lv2 := [(0, _), (1, _), (2, _)]) hC dJ5_append_cf1ce_13 rfl (by decide) ?_
  refine wpw_aload_n hC dJ5_append_cf1ce_14 rfl ?_
  refine wpw_aload_n hC dJ5_append_cf1ce_15 rfl ?_
  refine wpw_get (i := 0) (k := 3) (T := TJ4) (v := .int (zI L.length)) hC he1 hcl (by decide) (by decide +kernel) (by decide +kernel) rfl dJ5_append_cf1ce_16 ?_
  refine wpw_iload_n hC dJ5_append_cf1ce_19 rfl ?_
  refine wpw_iadd hC dJ5_append_cf1ce_20 ?_
  refine wpw_callUv (As := [_]) hC hX (x_J5_ensure (mn := (L.length : Int) + (lenS.getD i 0 : Nat)) hcl ht h ⟨by omega, by omega⟩) gJ5_append_cf1ce_J5_ensureCapacityInternal_d00df_u100J4 rfl ⟨by decide, by decide⟩ ⟨by decide, by decide⟩ rfl hzUJ5_ensureCapacityInternal_d00df he1 hcl rfl (Nat.le_of_ble_eq_true rfl) dJ5_append_cf1ce_21 (fun X_21 hp_21 => ?_)
  obtain ⟨cap2, hc2, h2⟩ := hp_21
  obtain ⟨hn2, hcap2, j2, b2, f2, ml2, h02, k1, k2, hf2, hL2⟩ := id h2
  refine wpw_aload_n hC dJ5_append_cf1ce_24 rfl ?_
  refine wpw_aload_n hC dJ5_append_cf1ce_25 rfl ?_
  refine wpw_get (i := 0) (k := 3) (T := TJ4) (v := .int (zI L.length)) hC k1 hcl (by decide) (by decide +kernel) (by decide +kernel) rfl dJ5_append_cf1ce_26 ?_
  refine wpw_aload_n hC dJ5_append_cf1ce_29 rfl ?_
  refine wpw_callUv (As := [_, _]) hC hX (x_J5_putS (x := (L.length : Int)) hi hcl ht h2 k1 k2 (by omega)) gJ5_append_cf1ce_J5_putStringAt_47b60_u208J4 rfl ⟨by decide, by decide⟩ ⟨by decide, by decide⟩ rfl hzUJ5_putStringAt_47b60 k1 hcl rfl (Nat.le_of_ble_eq_true rfl) dJ5_append_cf1ce_30 (fun Y_30 hp_30 => ?_)
  subst hp_30
  refine wpw_aload_n hC dJ5_append_cf1ce_33 rfl ?_
  refine wpw_dup hC dJ5_append_cf1ce_34 rfl ?_
  refine wpw_get (i := 0) (k := 3) (T := TJ4) (v := .int (zI L.length)) hC (by rw [List.getElem?_set_ne (by omega)]; exact k1) hcl (by decide) (by decide +kernel) (by decide +kernel) rfl dJ5_append_cf1ce_35 ?_
  refine wpw_iload_n hC dJ5_append_cf1ce_38 rfl ?_
  refine wpw_iadd hC dJ5_append_cf1ce_39 ?_
  refine wpw_put (i := 0) (fs2 := []) (k := 3) (T := TJ4) (ty := .int) hC (by rw [List.getElem?_set_ne (by omega)]; exact k1) hcl (by decide) (by decide +kernel) (by decide +kernel) tyJ4 tyJ4_ok nmJ4 rfl rfl rfl rfl (Nat.le_of_ble_eq_true rfl) rfl dJ5_append_cf1ce_40 ?_
  refine wpw_aload_n hC dJ5_append_cf1ce_43 rfl ?_
  exact hret _ _ _ _ ⟨rfl, cap2, by
    rw [Int.toNat_natCast]
    exact (SBd_w (L2 := L ++ wdL i) (ml := ml2) h02 k1 k2 ⟨by rw [List.length_append, w1]; omega, hcap2⟩ (fits_wd hi rfl hf2) (wd_ok hi hL2) _ (by rw [List.length_append, w1]; rfl)).1⟩ dJ5_append_cf1ce_44

theorem hzWJ5_append_3fe6f : yJ5_append_3fe6f.name ≠ "<init>" ∧ (parseMethodDescriptor yJ5_append_3fe6f.desc).map (fun d => d.parameters.length) = some 1 := by decide +kernel

set_option maxHeartbeats 4000000 in
set_option maxRecDepth 100000 in
theorem x_J4_appendC {l : Launch} {D : va_G} {cl : List vw_C} {tys : List (ClassId × FieldType)} {cB : ClassId} {Z : Ky} {X : va_W} {q cap t : Nat} {L : List Int} {v : Int} (hcl : cl[0]? = some (RJ4, TJ4, 4)) (ht : tys[t]? = some (cB, .byte)) (h : SBd cB X q L cap) (hv : 0 ≤ v ∧ v < 128) (hl : L.length ≤ 50) : MXr l yJ4_append_cf468 wsJ4_append_cf468 ({ frames := 5, cells := 1, slots := 200, locals := 170 } : Room) D cl tys cB Z [.ref q, .int (zI v)] X (fun r X2 => r = q ∧ ∃ cap2 : Nat, SBd cB X2 q (L ++ [v]) cap2) := by
  refine MXr.of (Or.inl ⟨_, rfl⟩) (by decide +kernel) rfl rfl (Nat.le_of_ble_eq_true rfl) rfl ?_
  intro p e s m args below meth c Q hC hX hret
  obtain ⟨hn, hcap, j, b, f, ml, h0, he1, he2, hf, hL⟩ := id h
  refine wpw_aload_n hC dJ4_append_cf468_0 rfl ?_
  refine wpw_iload_n hC dJ4_append_cf468_1 rfl ?_
  refine wpw_callSUr (As := [_]) hC hX (x_J5_appendC hcl ht h hv hl) gJ4_append_cf468_J5_append_3fe6f_s50 rfl ⟨by decide, by decide⟩ ⟨by decide, by decide⟩ hzWJ5_append_3fe6f he1 hcl rfl (Nat.le_of_ble_eq_true rfl) dJ4_append_cf468_2 (fun q_2 Y_2 hp_2 => ?_)
  obtain ⟨rfl, h2⟩ := hp_2
  refine wpw_pop hC dJ4_append_cf468_5 rfl ?_
  refine wpw_aload_n hC dJ4_append_cf468_6 rfl ?_
  exact hret _ _ _ _ ⟨rfl, h2⟩ dJ4_append_cf468_7

theorem hzWJ5_append_c97b9 : yJ5_append_c97b9.name ≠ "<init>" ∧ (parseMethodDescriptor yJ5_append_c97b9.desc).map (fun d => d.parameters.length) = some 1 := by decide +kernel

set_option maxHeartbeats 4000000 in
set_option maxRecDepth 100000 in
theorem x_J4_appendI {l : Launch} {D : va_G} {cl : List vw_C} {tys : List (ClassId × FieldType)} {cB : ClassId} {Z : Ky} {X : va_W} {q cap t : Nat} {L : List Int} {v : Int} (hcl : cl[0]? = some (RJ4, TJ4, 4)) (ht : tys[t]? = some (cB, .byte)) (h : SBd cB X q L cap) (hv : 0 ≤ v ∧ v ≤ 99) (hl : L.length ≤ 50) : MXr l yJ4_append_bf812 wsJ4_append_bf812 ({ frames := 5, cells := 1, slots := 200, locals := 170 } : Room) D cl tys cB Z [.ref q, .int (zI v)] X (fun r X2 => r = q ∧ ∃ cap2 : Nat, SBd cB X2 q (L ++ nmL v) cap2) := by
  refine MXr.of (Or.inl ⟨_, rfl⟩) (by decide +kernel) rfl rfl (Nat.le_of_ble_eq_true rfl) rfl ?_
  intro p e s m args below meth c Q hC hX hret
  obtain ⟨hn, hcap, j, b, f, ml, h0, he1, he2, hf, hL⟩ := id h
  refine wpw_aload_n hC dJ4_append_bf812_0 rfl ?_
  refine wpw_iload_n hC dJ4_append_bf812_1 rfl ?_
  refine wpw_callSUr (As := [_]) hC hX (x_J5_appendI hcl ht h hv hl) gJ4_append_bf812_J5_append_c97b9_s53 rfl ⟨by decide, by decide⟩ ⟨by decide, by decide⟩ hzWJ5_append_c97b9 he1 hcl rfl (Nat.le_of_ble_eq_true rfl) dJ4_append_bf812_2 (fun q_2 Y_2 hp_2 => ?_)
  obtain ⟨rfl, h2⟩ := hp_2
  refine wpw_pop hC dJ4_append_bf812_5 rfl ?_
  refine wpw_aload_n hC dJ4_append_bf812_6 rfl ?_
  exact hret _ _ _ _ ⟨rfl, h2⟩ dJ4_append_bf812_7

theorem hzWJ5_append_cf1ce : yJ5_append_cf1ce.name ≠ "<init>" ∧ (parseMethodDescriptor yJ5_append_cf1ce.desc).map (fun d => d.parameters.length) = some 1 := by decide +kernel

set_option maxHeartbeats 4000000 in
set_option maxRecDepth 100000 in
theorem x_J4_appendS {l : Launch} {D : va_G} {cl : List vw_C} {tys : List (ClassId × FieldType)} {cB : ClassId} {Z : Ky} {X : va_W} {q cap t : Nat} {L : List Int} {i : Nat} (hi : i < 4) (hcl : cl[0]? = some (RJ4, TJ4, 4)) (ht : tys[t]? = some (cB, .byte)) (h : SBd cB X q L cap) (hl : L.length ≤ 50) : MXr l yJ4_append_15ec4 wsJ4_append_15ec4 ({ frames := 5, cells := 1, slots := 200, locals := 170 } : Room) D cl tys cB Z [.ref q, .ref (Z.1 i)] X (fun r X2 => r = q ∧ ∃ cap2 : Nat, SBd cB X2 q (L ++ wdL i) cap2) := by
  refine MXr.of (Or.inl ⟨_, rfl⟩) (by decide +kernel) rfl rfl (Nat.le_of_ble_eq_true rfl) rfl ?_
  intro p e s m args below meth c Q hC hX hret
  obtain ⟨hn, hcap, j, b, f, ml, h0, he1, he2, hf, hL⟩ := id h
  refine wpw_aload_n hC dJ4_append_15ec4_0 rfl ?_
  refine wpw_aload_n hC dJ4_append_15ec4_1 rfl ?_
  refine wpw_callSUr (As := [_]) hC hX (x_J5_appendS hi hcl ht h hl) gJ4_append_15ec4_J5_append_cf1ce_s29 rfl ⟨by decide, by decide⟩ ⟨by decide, by decide⟩ hzWJ5_append_cf1ce he1 hcl rfl (Nat.le_of_ble_eq_true rfl) dJ4_append_15ec4_2 (fun q_2 Y_2 hp_2 => ?_)
  obtain ⟨rfl, h2⟩ := hp_2
  refine wpw_pop hC dJ4_append_15ec4_5 rfl ?_
  refine wpw_aload_n hC dJ4_append_15ec4_6 rfl ?_
  exact hret _ _ _ _ ⟨rfl, h2⟩ dJ4_append_15ec4_7

theorem hzWJ5_length_8abf5 : yJ5_length_8abf5.name ≠ "<init>" ∧ (parseMethodDescriptor yJ5_length_8abf5.desc).map (fun d => d.parameters.length) = some 0 := by decide +kernel
theorem hzWJ5_charAt_5068e : yJ5_charAt_5068e.name ≠ "<init>" ∧ (parseMethodDescriptor yJ5_charAt_5068e.desc).map (fun d => d.parameters.length) = some 1 := by decide +kernel

set_option maxHeartbeats 4000000 in
set_option maxRecDepth 100000 in
theorem x_J5_length {l : Launch} {D : va_G} {cl : List vw_C} {tys : List (ClassId × FieldType)} {cB : ClassId} {Z : Ky} {X : va_W} {q cap : Nat} {L : List Int} (hcl : cl[0]? = some (RJ4, TJ4, 4)) (h : SBd cB X q L cap) : MXi l yJ5_length_8abf5 wsJ5_length_8abf5 ({ frames := 0, cells := 0, slots := 0, locals := 0 } : Room) D cl tys cB Z [.ref q] X (fun x X2 => x = L.length ∧ X2 = X) := by
  refine MXi.of (by decide +kernel) rfl rfl (Nat.le_of_ble_eq_true rfl) rfl ?_
  intro p e s m args below meth c Q hC hX hret
  obtain ⟨hn, hcap, j, b, f, ml, h0, he1, he2, hf, hL⟩ := id h
  refine wpw_aload_n hC dJ5_length_8abf5_0 rfl ?_
  refine wpw_get (i := 0) (k := 3) (T := TJ4) (v := .int (zI L.length)) hC he1 hcl (by decide) (by decide +kernel) (by decide +kernel) rfl dJ5_length_8abf5_1 ?_
  exact hret _ _ _ _ ⟨by omega, by omega⟩ rfl ⟨rfl, rfl⟩ dJ5_length_8abf5_4

set_option maxHeartbeats 4000000 in
set_option maxRecDepth 100000 in
theorem x_J4_length {l : Launch} {D : va_G} {cl : List vw_C} {tys : List (ClassId × FieldType)} {cB : ClassId} {Z : Ky} {X : va_W} {q cap : Nat} {L : List Int} (hcl : cl[0]? = some (RJ4, TJ4, 4)) (h : SBd cB X q L cap) : MXi l yJ4_length_8abf5 wsJ4_length_8abf5 ({ frames := 1, cells := 0, slots := 0, locals := 25 } : Room) D cl tys cB Z [.ref q] X (fun x X2 => x = L.length ∧ X2 = X) := by
  refine MXi.of (by decide +kernel) rfl rfl (Nat.le_of_ble_eq_true rfl) rfl ?_
  intro p e s m args below meth c Q hC hX hret
  obtain ⟨hn, hcap, j, b, f, ml, h0, he1, he2, hf, hL⟩ := id h
  refine wpw_aload_n hC dJ4_length_8abf5_0 rfl ?_
  refine wpw_callSUi (As := []) hC hX (x_J5_length hcl h) gJ4_length_8abf5_J5_length_8abf5_s343 rfl ⟨by decide, by decide⟩ ⟨by decide, by decide⟩ hzWJ5_length_8abf5 he1 hcl rfl (Nat.le_of_ble_eq_true rfl) dJ4_length_8abf5_1 (fun x_1 Y_1 hx_1 hp_1 => ?_)
  exact hret _ _ _ _ hx_1 rfl hp_1 dJ4_length_8abf5_4

theorem hzSJ3_checkIndex_8e157 : yJ3_checkIndex_8e157.cls ≠ "java/lang/invoke/MethodHandle" ∧ yJ3_checkIndex_8e157.cls ≠ "java/lang/invoke/VarHandle" ∧ (parseMethodDescriptor yJ3_checkIndex_8e157.desc).map (fun d => d.parameters.length) = some 3 := by decide +kernel
theorem hzSJ0_checkIndex_df160 : yJ0_checkIndex_df160.cls ≠ "java/lang/invoke/MethodHandle" ∧ yJ0_checkIndex_df160.cls ≠ "java/lang/invoke/VarHandle" ∧ (parseMethodDescriptor yJ0_checkIndex_df160.desc).map (fun d => d.parameters.length) = some 2 := by decide +kernel

set_option maxHeartbeats 4000000 in
set_option maxRecDepth 100000 in
theorem x_J3_checkIndex {l : Launch} {D : va_G} {cl : List vw_C} {tys : List (ClassId × FieldType)} {cB : ClassId} {Z : Ky} {X : va_W} {x n : Int} {v : Value} (hv : v = .null ∨ ∃ t, v = .ref t) (hx : 0 ≤ x ∧ x < n) (hn : n ≤ 100) : MXi l yJ3_checkIndex_8e157 wsJ3_checkIndex_8e157 ({ frames := 0, cells := 0, slots := 0, locals := 0 } : Room) D cl tys cB Z [.int (zI x), .int (zI n), v] X (fun r X2 => r = x ∧ X2 = X) := by
  rcases hv with rfl | ⟨t, rfl⟩
  all_goals
    refine MXi.of (by decide +kernel) rfl rfl (Nat.le_of_ble_eq_true rfl) rfl ?_
    intro p e s m args below meth c Q hC hX hret
    refine wpw_iload_n hC dJ3_checkIndex_8e157_0 rfl ?_
    refine wpw_if_lt (tgt := 9) hC dJ3_checkIndex_8e157_1 (by decide) ⟨by omega, by omega⟩ (fun c_1 => absurd c_1 (by omega)) (fun c_1 => ?_)
    refine wpw_iload_n hC dJ3_checkIndex_8e157_4 rfl ?_
    refine wpw_iload_n hC dJ3_checkIndex_8e157_5 rfl ?_
    refine wpw_icmp_lt (tgt := 16) hC dJ3_checkIndex_8e157_6 (by decide) ⟨by omega, by omega⟩ ⟨by omega, by omega⟩ (fun c_6 => ?_) (fun c_6 => absurd c_6 (by omega))
    refine wpw_iload_n hC dJ3_checkIndex_8e157_16 rfl ?_
    exact hret _ _ _ _ ⟨by omega, by omega⟩ rfl ⟨rfl, rfl⟩ dJ3_checkIndex_8e157_17

set_option maxHeartbeats 4000000 in
set_option maxRecDepth 100000 in
theorem x_J0_checkIndex {l : Launch} {D : va_G} {cl : List vw_C} {tys : List (ClassId × FieldType)} {cB : ClassId} {Z : Ky} {X : va_W} {x n : Int} (hx : 0 ≤ x ∧ x < n) (hn : n ≤ 100) : MXv l yJ0_checkIndex_df160 wsJ0_checkIndex_df160 ({ frames := 1, cells := 0, slots := 0, locals := 22 } : Room) D cl tys cB Z [.int (zI x), .int (zI n)] X (fun X2 => X2 = X) := by
  refine MXv.of (by decide +kernel) rfl rfl (Nat.le_of_ble_eq_true rfl) rfl ?_
  intro p e s m args below meth c Q hC hX hret
  have hz : ∃ v : Value, (v = .null ∨ ∃ t, v = .ref t) ∧ va_Z RJ3 "SIOOBE_FORMATTER" "Ljava/util/function/BiFunction;" v (va_A X s.heap.size) s s.heap := by
    rcases hX.2.1.2.2.2 with q | ⟨t, q⟩
    · exact ⟨_, Or.inl rfl, q⟩
    · exact ⟨_, Or.inr ⟨t, rfl⟩, q⟩
  obtain ⟨v, hv, hz⟩ := hz
  refine wpw_iload_n hC dJ0_checkIndex_df160_0 rfl ?_
  refine wpw_iload_n hC dJ0_checkIndex_df160_1 rfl ?_
  refine wpw_getst hC hz (by decide +kernel) dJ0_checkIndex_df160_2 ?_
  refine wpw_callSi (As := [_, _, _]) hC hX (x_J3_checkIndex hv hx hn) gJ0_checkIndex_df160_J3_checkIndex_8e157 rfl ⟨by decide, by decide⟩ ⟨by decide, by decide⟩ hzSJ3_checkIndex_8e157 rfl (Nat.le_of_ble_eq_true rfl) dJ0_checkIndex_df160_5 (fun x_5 Y_5 hx_5 hp_5 => ?_)
  obtain ⟨rfl, eY_5⟩ := hp_5
  have eY_5 := eY_5.symm
  subst eY_5
  refine wpw_pop hC dJ0_checkIndex_df160_8 rfl ?_
  exact hret _ _ _ rfl dJ0_checkIndex_df160_9

theorem and_255 : ∀ n : Nat, n < 128 → iand (n : Int) 255 = n := by decide +kernel

set_option maxHeartbeats 4000000 in
set_option maxRecDepth 100000 in
theorem x_J5_charAt {l : Launch} {D : va_G} {cl : List vw_C} {tys : List (ClassId × FieldType)} {cB : ClassId} {Z : Ky} {X : va_W} {q cap t : Nat} {L : List Int} (hcl : cl[0]? = some (RJ4, TJ4, 4)) (h : SBd cB X q L cap) (ht : tys[t]? = some (cB, .byte)) {x : Int} (hx : 0 ≤ x ∧ x < L.length) (hl : L.length ≤ 60) : MXi l yJ5_charAt_5068e wsJ5_charAt_5068e ({ frames := 2, cells := 0, slots := 0, locals := 60 } : Room) D cl tys cB Z [.ref q, .int (zI x)] X (fun r X2 => r = L.getD x.toNat 0 ∧ X2 = X) := by
  refine MXi.of (by decide +kernel) rfl rfl (Nat.le_of_ble_eq_true rfl) rfl ?_
  intro p e s m args below meth c Q hC hX hret
  obtain ⟨hn, hcap, j, b, f, ml, h0, he1, he2, hf, hL⟩ := id h
  obtain ⟨k, rfl⟩ := Int.eq_ofNat_of_zero_le hx.1
  obtain ⟨g1, g2, g3⟩ := hL k (by omega)
  obtain ⟨z, hz⟩ := Int.eq_ofNat_of_zero_le g2
  refine wpw_aload_n hC dJ5_charAt_5068e_0 rfl ?_
  refine wpw_get (i := 0) (k := 1) (T := TJ4) (v := .int (zI 0)) hC he1 hcl (by decide) (by decide +kernel) (by decide +kernel) rfl dJ5_charAt_5068e_1 ?_
  refine wpw_istore_n (lv2 := [(0, _), (1, _), (2, _)]) hC dJ5_charAt_5068e_4 rfl (by decide) ?_
  refine wpw_aload_n hC dJ5_charAt_5068e_5 rfl ?_
  refine wpw_get (i := 0) (k := 0) (T := TJ4) hC he1 hcl (by decide) (by decide +kernel) (by decide +kernel) rfl dJ5_charAt_5068e_6 ?_
  refine wpw_astore_n (lv2 := [(0, _), (1, _), (2, _), (3, _)]) hC dJ5_charAt_5068e_9 rfl (by decide) ?_
  refine wpw_aload_n hC dJ5_charAt_5068e_10 rfl ?_
  refine wpw_get (i := 0) (k := 3) (T := TJ4) (v := .int (zI L.length)) hC he1 hcl (by decide) (by decide +kernel) (by decide +kernel) rfl dJ5_charAt_5068e_11 ?_
  refine wpw_aload_n hC dJ5_charAt_5068e_14 rfl ?_
  refine wpw_alen hC he2 ht dJ5_charAt_5068e_15 ?_
  refine wpw_iload_n hC dJ5_charAt_5068e_16 rfl ?_
  refine wpw_ishr hC dJ5_charAt_5068e_17 ?_
  refine wpw_top (b := (cap : Int)) (sh_0 cap (by omega)).2 ?_
  refine wpw_mmin hC (by decide +kernel) (by decide +kernel) (by decide +kernel) (by decide +kernel) (Nat.le_of_ble_eq_true rfl) (Nat.le_of_ble_eq_true rfl) ⟨by decide, by decide⟩ ⟨by omega, by omega⟩ ⟨by omega, by omega⟩ dJ5_charAt_5068e_18 ?_
  refine wpw_top (b := (L.length : Int)) (by omega) ?_
  refine wpw_istore (lv2 := [(0, _), (1, _), (2, _), (3, _), (4, _)]) hC dJ5_charAt_5068e_21 rfl (by decide) ?_
  refine wpw_iload_n hC dJ5_charAt_5068e_23 rfl ?_
  refine wpw_iload hC dJ5_charAt_5068e_24 rfl ?_
  refine wpw_callSv (As := [_, _]) hC hX (x_J0_checkIndex (x := (k : Int)) (n := (L.length : Int)) (by omega) (by omega)) gJ5_charAt_5068e_J0_checkIndex_df160 rfl ⟨by decide, by decide⟩ ⟨by decide, by decide⟩ hzSJ0_checkIndex_df160 rfl (Nat.le_of_ble_eq_true rfl) dJ5_charAt_5068e_26 (fun Y_26 hp_26 => ?_)
  have hp_26 := hp_26.symm
  subst hp_26
  refine wpw_iload_n hC dJ5_charAt_5068e_29 rfl ?_
  refine wpw_if_ne (tgt := 42) hC dJ5_charAt_5068e_30 (by decide) ⟨by decide, by decide⟩ (fun c_30 => absurd rfl c_30) (fun c_30 => ?_)
  refine wpw_aload_n hC dJ5_charAt_5068e_33 rfl ?_
  refine wpw_iload_n hC dJ5_charAt_5068e_34 rfl ?_
  refine wpw_bald (v := L.getD k 0) hC he2 ht (by omega) ⟨by omega, by omega⟩ (by rw [Int.toNat_natCast]; exact g1) dJ5_charAt_5068e_35 ?_
  refine wpw_sipush (n := 255) hC dJ5_charAt_5068e_36 rfl ?_
  refine wpw_iand hC dJ5_charAt_5068e_39 ?_
  refine wpw_top (b := L.getD k 0) (by rw [hz]; exact and_255 z (by omega)) ?_
  refine wpw_i2c hC dJ5_charAt_5068e_40 ⟨by omega, by omega⟩ ?_
  exact hret _ _ _ _ ⟨by omega, by omega⟩ (nar_c ⟨by omega, by omega⟩) ⟨by rw [Int.toNat_natCast], rfl⟩ dJ5_charAt_5068e_41

set_option maxHeartbeats 4000000 in
set_option maxRecDepth 100000 in
theorem x_J4_charAt {l : Launch} {D : va_G} {cl : List vw_C} {tys : List (ClassId × FieldType)} {cB : ClassId} {Z : Ky} {X : va_W} {q cap t : Nat} {L : List Int} (hcl : cl[0]? = some (RJ4, TJ4, 4)) (h : SBd cB X q L cap) (ht : tys[t]? = some (cB, .byte)) {x : Int} (hx : 0 ≤ x ∧ x < L.length) (hl : L.length ≤ 60) : MXi l yJ4_charAt_5068e wsJ4_charAt_5068e ({ frames := 3, cells := 0, slots := 0, locals := 90 } : Room) D cl tys cB Z [.ref q, .int (zI x)] X (fun r X2 => r = L.getD x.toNat 0 ∧ (0 ≤ r ∧ r < 128) ∧ X2 = X) := by
  refine MXi.of (by decide +kernel) rfl rfl (Nat.le_of_ble_eq_true rfl) rfl ?_
  intro p e s m args below meth c Q hC hX hret
  obtain ⟨hn, hcap, j, b, f, ml, h0, he1, he2, hf, hL⟩ := id h
  have g9 := (hL x.toNat (by omega)).2
  refine wpw_aload_n hC dJ4_charAt_5068e_0 rfl ?_
  refine wpw_iload_n hC dJ4_charAt_5068e_1 rfl ?_
  refine wpw_callSUi (As := [_]) hC hX (x_J5_charAt hcl h ht hx hl) gJ4_charAt_5068e_J5_charAt_5068e_s329 rfl ⟨by decide, by decide⟩ ⟨by decide, by decide⟩ hzWJ5_charAt_5068e he1 hcl rfl (Nat.le_of_ble_eq_true rfl) dJ4_charAt_5068e_2 (fun x_2 Y_2 hx_2 hp_2 => ?_)
  obtain ⟨e2, eY_2⟩ := hp_2
  rw [← e2] at g9
  exact hret _ _ _ _ hx_2 (nar_c ⟨by omega, by omega⟩) ⟨e2, g9, eY_2⟩ dJ4_charAt_5068e_5

theorem hzIJ5_init_d00df : yJ5_init_d00df.name = "<init>" ∧ yJ5_init_d00df.cls ≠ "java/lang/invoke/MethodHandle" ∧ yJ5_init_d00df.cls ≠ "java/lang/invoke/VarHandle" ∧ (parseMethodDescriptor yJ5_init_d00df.desc).map (fun d => d.parameters.length) = some 1 := by decide +kernel

set_option maxHeartbeats 4000000 in
set_option maxRecDepth 100000 in
theorem x_J5_init {l : Launch} {D : va_G} {cl : List vw_C} {tys : List (ClassId × FieldType)} {cB : ClassId} {Z : Ky} {X : va_W} {q : Nat} (hcl : cl[0]? = some (RJ4, TJ4, 4)) (he1 : X[0]? = some (q, .inr (0, [.null, .int (zI 0), .int (zI 0), .int (zI 0)]))) : MXv l yJ5_init_d00df wsJ5_init_d00df ({ frames := 1, cells := 1, slots := 200, locals := 40 } : Room) D cl tys cB Z [.ref q, .int (zI 16)] X (fun X2 => SBd cB X2 q [] 16) := by
  refine MXv.of (by decide +kernel) rfl rfl (Nat.le_of_ble_eq_true rfl) rfl ?_
  intro p e s m args below meth c Q hC hX hret
  have l1 : 0 < X.length := (List.getElem?_eq_some_iff.mp he1).1
  refine wpw_aload_n hC dJ5_init_d00df_0 rfl ?_
  refine wpw_objI hC (by decide +kernel) (by decide +kernel) (by decide +kernel) (Nat.le_of_ble_eq_true rfl) (Nat.le_of_ble_eq_true rfl) dJ5_init_d00df_1 ?_
  refine wpw_getst (v := .int (zI 1)) hC hX.2.1.2.2.1 (by decide +kernel) dJ5_init_d00df_4 ?_
  refine wpw_if_eq (tgt := 25) hC dJ5_init_d00df_7 (by decide) ⟨by decide, by decide⟩ (fun c_7 => absurd c_7 (by decide)) (fun c_7 => ?_)
  refine wpw_aload_n hC dJ5_init_d00df_10 rfl ?_
  refine wpw_iload_n hC dJ5_init_d00df_11 rfl ?_
  refine wpw_newc hC hX.1 ⟨by decide, by decide⟩ (by decide +kernel) (by decide) (by decide) dJ5_init_d00df_12 (fun q_12 hq_12 => ?_)
  have he3 := (List.getElem?_append_left (l₂ := [(q_12, (.inl (cB, (16 : Int).toNat, .inl (fun _ => 0)) : va_E))]) l1).trans he1
  refine wpw_put (i := 0) (fs2 := []) (k := 0) (T := TJ4) (ty := .array .byte) hC he3 hcl (by decide) (by decide +kernel) (by decide +kernel) tyJ4 tyJ4_ok nmJ4 rfl rfl rfl rfl (Nat.le_of_ble_eq_true rfl) rfl dJ5_init_d00df_14 ?_
  refine wpw_aload_n hC dJ5_init_d00df_17 rfl ?_
  refine wpw_iconst hC dJ5_init_d00df_18 ?_
  refine wpw_put (i := 0) (fs2 := []) (k := 1) (T := TJ4) (ty := .byte) hC (List.getElem?_set_self (by simp)) hcl (by decide) (by decide +kernel) (by decide +kernel) tyJ4 tyJ4_ok nmJ4 rfl rfl rfl rfl (Nat.le_of_ble_eq_true rfl) rfl dJ5_init_d00df_19 ?_
  refine wpw_goto (tgt := 38) hC dJ5_init_d00df_22 (by decide) ?_
  refine wpw_more (cells2 := 1) (slots2 := 200) (by decide) (by decide) ?_
  refine hret _ _ _ ⟨by decide, by decide, X.length, q_12, fun _ => 0, 0, l1, List.getElem?_set_self (by simp), ?_, fun _ => fits_b 0 (by decide), fun k hk => absurd hk (by simp)⟩ dJ5_init_d00df_38
  rw [List.getElem?_set_ne (by omega), List.getElem?_set_ne (by omega), List.getElem?_append_right (Nat.le_refl _), Nat.sub_self]
  rfl

set_option maxHeartbeats 4000000 in
set_option maxRecDepth 100000 in
theorem x_J4_init {l : Launch} {D : va_G} {cl : List vw_C} {tys : List (ClassId × FieldType)} {cB : ClassId} {Z : Ky} {X : va_W} {q : Nat} (hcl : cl[0]? = some (RJ4, TJ4, 4)) (he1 : X[0]? = some (q, .inr (0, [.null, .int (zI 0), .int (zI 0), .int (zI 0)]))) : MXv l yJ4_init_da8c8 wsJ4_init_da8c8 ({ frames := 2, cells := 1, slots := 200, locals := 70 } : Room) D cl tys cB Z [.ref q] X (fun X2 => SBd cB X2 q [] 16) := by
  refine MXv.of (by decide +kernel) rfl rfl (Nat.le_of_ble_eq_true rfl) rfl ?_
  intro p e s m args below meth c Q hC hX hret
  refine wpw_aload_n hC dJ4_init_da8c8_0 rfl ?_
  refine wpw_bipush hC dJ4_init_da8c8_1 rfl ?_
  refine wpw_callIv (As := [_]) hC hX (x_J5_init hcl he1) gJ4_init_da8c8_J5_init_d00df (by decide +kernel) (by decide +kernel) (by decide +kernel) rfl ⟨by decide, by decide⟩ ⟨by decide, by decide⟩ hzIJ5_init_d00df rfl (Nat.le_of_ble_eq_true rfl) dJ4_init_da8c8_3 (fun Y_3 hp_3 => ?_)
  exact hret _ _ _ hp_3 dJ4_init_da8c8_6
