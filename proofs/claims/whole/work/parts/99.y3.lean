/-! a StringBuilder, first of a world's cells -/
/-- its text, how many bytes there are -/
def SBd (cB : ClassId) (X : va_W) (q : Nat) (L : List Int) (cap : Nat) : Prop :=
  L.length ≤ cap ∧ cap ≤ 150 ∧ ∃ (j b : Nat) (f : Nat → Int32) (ml : Int), 0 < j ∧ X[0]? = some (q, .inr (0, [.ref b, .int (zI 0), .int (zI ml), .int (zI L.length)])) ∧ X[j]? = some (b, .inl (cB, cap, .inl f)) ∧ (∀ k, fits .byte (.int (f k)) = true) ∧ ∀ k, k < L.length → f k = zI (L.getD k 0) ∧ 0 ≤ L.getD k 0 ∧ L.getD k 0 < 128
theorem fits_b : ∀ n : Nat, n < 128 → fits .byte (.int (zI n)) = true := by decide +kernel
theorem fits_upd {f : Nat → Int32} (h : ∀ k, fits .byte (.int (f k)) = true) {i : Nat} {v : Int} (hv : 0 ≤ v ∧ v < 128) : ∀ k, fits .byte (.int (upd f i (zI v) k)) = true := fun k => by
  obtain ⟨n, rfl⟩ := Int.eq_ofNat_of_zero_le hv.1
  unfold upd
  split
  · exact fits_b n (by omega)
  · exact h k
theorem fits_cpy {f g : Nat → Int32} (h : ∀ k, fits .byte (.int (f k)) = true) (h2 : ∀ k, fits .byte (.int (g k)) = true) {a b n : Nat} : ∀ k, fits .byte (.int (va_cpy f g a b n k)) = true := fun k => by
  unfold va_cpy
  split
  · exact h _
  · exact h2 _
/-- bytes written, then their number -/
theorem SBd_w {cB : ClassId} {X : va_W} {q j b cap : Nat} {f2 : Nat → Int32} {ml : Int} {fs : List Value} {e : Nat × va_E} {L2 : List Int} (h0 : 0 < j) (he1 : X[0]? = some (q, .inr (0, fs))) (he2 : X[j]? = some e) (hc : L2.length ≤ cap ∧ cap ≤ 150) (hf : ∀ k, fits .byte (.int (f2 k)) = true) (hL : ∀ k, k < L2.length → f2 k = zI (L2.getD k 0) ∧ 0 ≤ L2.getD k 0 ∧ L2.getD k 0 < 128) (fs2 : List Value) (hfs : fs2 = [.ref b, .int (zI 0), .int (zI ml), .int (zI L2.length)]) : SBd cB ((X.set j (b, .inl (cB, cap, .inl f2))).set 0 (q, .inr (0, fs2))) q L2 cap ∧ SBd cB ((X.set 0 (q, .inr (0, fs2))).set j (b, .inl (cB, cap, .inl f2))) q L2 cap := by
  have l1 : 0 < X.length := (List.getElem?_eq_some_iff.mp he1).1
  have l2 : j < X.length := (List.getElem?_eq_some_iff.mp he2).1
  subst hfs
  refine ⟨⟨hc.1, hc.2, j, b, f2, ml, h0, List.getElem?_set_self (by simp; exact l1), ?_, hf, hL⟩, ⟨hc.1, hc.2, j, b, f2, ml, h0, ?_, List.getElem?_set_self (by simp; exact l2), hf, hL⟩⟩
  · rw [List.getElem?_set_ne (by omega)]
    exact List.getElem?_set_self l2
  · rw [List.getElem?_set_ne (by omega)]
    exact List.getElem?_set_self l1

theorem hzUJ5_newCapacity_0f7a4 : "java/lang/AbstractStringBuilder" ≠ "java/lang/invoke/MethodHandle" ∧ "java/lang/AbstractStringBuilder" ≠ "java/lang/invoke/VarHandle" ∧ (parseMethodDescriptor "(I)I").map (fun d => d.parameters.length) = some 1 := by decide +kernel
theorem hzSJ7_copyOf_9075b : yJ7_copyOf_9075b.cls ≠ "java/lang/invoke/MethodHandle" ∧ yJ7_copyOf_9075b.cls ≠ "java/lang/invoke/VarHandle" ∧ (parseMethodDescriptor yJ7_copyOf_9075b.desc).map (fun d => d.parameters.length) = some 2 := by decide +kernel

set_option maxHeartbeats 4000000 in
set_option maxRecDepth 100000 in
theorem x_J5_ensure {l : Launch} {D : va_G} {cl : List vw_C} {tys : List (ClassId × FieldType)} {cB : ClassId} {Z : Ky} {X : va_W} {q cap t : Nat} {L : List Int} {mn : Int} (hcl : cl[0]? = some (RJ4, TJ4, 4)) (ht : tys[t]? = some (cB, .byte)) (h : SBd cB X q L cap) (hm : 1 ≤ mn ∧ mn ≤ 60) : MXv l yJ5_ensureCapacityInternal_d00df wsJ5_ensureCapacityInternal_d00df ({ frames := 3, cells := 1, slots := 200, locals := 90 } : Room) D cl tys cB Z [.ref q, .int (zI mn)] X (fun X2 => ∃ cap2 : Nat, mn ≤ cap2 ∧ SBd cB X2 q L cap2) := by
  refine MXv.of (by decide +kernel) rfl rfl (Nat.le_of_ble_eq_true rfl) rfl ?_
  intro p e s m args below meth c Q hC hX hret
  obtain ⟨hn, hcap, j, b, f, ml, h0, he1, he2, hf, hL⟩ := id h
  have l1 : 0 < X.length := (List.getElem?_eq_some_iff.mp he1).1
  have l2 : j < X.length := (List.getElem?_eq_some_iff.mp he2).1
  refine wpw_aload_n hC dJ5_ensureCapacityInternal_d00df_0 rfl ?_
  refine wpw_get (i := 0) (k := 0) (T := TJ4) hC he1 hcl (by decide) (by decide +kernel) (by decide +kernel) rfl dJ5_ensureCapacityInternal_d00df_1 ?_
  refine wpw_alen hC he2 ht dJ5_ensureCapacityInternal_d00df_4 ?_
  refine wpw_aload_n hC dJ5_ensureCapacityInternal_d00df_5 rfl ?_
  refine wpw_get (i := 0) (k := 1) (T := TJ4) (v := .int (zI 0)) hC he1 hcl (by decide) (by decide +kernel) (by decide +kernel) rfl dJ5_ensureCapacityInternal_d00df_6 ?_
  refine wpw_ishr hC dJ5_ensureCapacityInternal_d00df_9 ?_
  refine wpw_top (b := (cap : Int)) (sh_0 cap (by omega)).2 ?_
  refine wpw_istore_n (lv2 := [(0, _), (1, _), (2, _)]) hC dJ5_ensureCapacityInternal_d00df_10 rfl (by decide) ?_
  refine wpw_iload_n hC dJ5_ensureCapacityInternal_d00df_11 rfl ?_
  refine wpw_iload_n hC dJ5_ensureCapacityInternal_d00df_12 rfl ?_
  refine wpw_isub hC dJ5_ensureCapacityInternal_d00df_13 ?_
  refine wpw_if_le (tgt := 38) hC dJ5_ensureCapacityInternal_d00df_14 (by decide) ⟨by omega, by omega⟩ (fun c_14 => ?_) (fun c_14 => ?_)
  · refine wpw_more (cells2 := 1) (slots2 := 200) (by decide) (by decide) ?_
    exact hret _ _ _ ⟨cap, by omega, h⟩ dJ5_ensureCapacityInternal_d00df_38
  · skip
    refine wpw_aload_n hC dJ5_ensureCapacityInternal_d00df_17 rfl ?_
    refine wpw_aload_n hC dJ5_ensureCapacityInternal_d00df_18 rfl ?_
    refine wpw_get (i := 0) (k := 0) (T := TJ4) hC he1 hcl (by decide) (by decide +kernel) (by decide +kernel) rfl dJ5_ensureCapacityInternal_d00df_19 ?_
    refine wpw_aload_n hC dJ5_ensureCapacityInternal_d00df_22 rfl ?_
    refine wpw_iload_n hC dJ5_ensureCapacityInternal_d00df_23 rfl ?_
    refine wpw_callUi (As := [_]) hC hX (x_J5_newCapacity (mn := mn) hcl he1 he2 ht ⟨by omega, by omega, by omega⟩) gJ5_ensureCapacityInternal_d00df_J5_newCapacity_0f7a4_u104J4 rfl ⟨by decide, by decide⟩ ⟨by decide, by decide⟩ rfl hzUJ5_newCapacity_0f7a4 he1 hcl rfl (Nat.le_of_ble_eq_true rfl) dJ5_ensureCapacityInternal_d00df_24 (fun x_24 X_24 hx_24 hp_24 => ?_)
    obtain ⟨e24, e24s⟩ := hp_24
    have e24s := e24s.symm
    subst e24s
    obtain ⟨r, hr⟩ : ∃ r : Nat, (r : Int) = x_24 := ⟨x_24.toNat, by omega⟩
    refine wpw_aload_n hC dJ5_ensureCapacityInternal_d00df_27 rfl ?_
    refine wpw_get (i := 0) (k := 1) (T := TJ4) (v := .int (zI 0)) hC he1 hcl (by decide) (by decide +kernel) (by decide +kernel) rfl dJ5_ensureCapacityInternal_d00df_28 ?_
    refine wpw_ishl hC dJ5_ensureCapacityInternal_d00df_31 ?_
    refine wpw_top (b := (r : Int)) (by rw [← hr]; exact (sh_0 r (by omega)).1) ?_
    refine wpw_callSr (As := [_, _]) hC hX (x_J7_copyOf (k := (r : Int)) he2 ht (by omega) hf) gJ5_ensureCapacityInternal_d00df_J7_copyOf_9075b rfl ⟨by decide, by decide⟩ ⟨by decide, by decide⟩ hzSJ7_copyOf_9075b rfl (Nat.le_of_ble_eq_true rfl) dJ5_ensureCapacityInternal_d00df_32 (fun q_32 X_32 hp_32 => ?_)
    subst hp_32
    have he3 := (List.getElem?_append_left (l₂ := [(q_32, (.inl (cB, ((r : Int)).toNat, .inl (va_cpy f (fun _ => 0) 0 0 cap)) : va_E))]) l1).trans he1
    refine wpw_put (i := 0) (fs2 := []) (k := 0) (T := TJ4) (ty := .array .byte) hC he3 hcl (by decide) (by decide +kernel) (by decide +kernel) tyJ4 tyJ4_ok nmJ4 rfl rfl rfl rfl (Nat.le_of_ble_eq_true rfl) rfl dJ5_ensureCapacityInternal_d00df_35 ?_
    refine hret _ _ _ ⟨r, by omega, by omega, by omega, X.length, q_32, va_cpy f (fun _ => 0) 0 0 cap, ml, by omega, List.getElem?_set_self (by simp), ?_, fits_cpy hf (fun _ => fits_b 0 (by decide)), fun k hk => ?_⟩ dJ5_ensureCapacityInternal_d00df_38
    · rw [List.getElem?_set_ne (by omega), List.getElem?_append_right (Nat.le_refl _), Nat.sub_self, Int.toNat_natCast]
      rfl
    · refine ⟨?_, (hL k hk).2⟩
      unfold va_cpy
      rw [if_pos (by omega), Nat.sub_zero, Nat.zero_add]
      exact (hL k hk).1

set_option maxHeartbeats 4000000 in
set_option maxRecDepth 100000 in
theorem x_J5_isLatin1 {l : Launch} {D : va_G} {cl : List vw_C} {tys : List (ClassId × FieldType)} {cB : ClassId} {Z : Ky} {X : va_W} {q cap : Nat} {L : List Int} (hcl : cl[0]? = some (RJ4, TJ4, 4)) (h : SBd cB X q L cap) : MXi l yJ5_isLatin1_aae02 wsJ5_isLatin1_aae02 ({ frames := 0, cells := 0, slots := 0, locals := 0 } : Room) D cl tys cB Z [.ref q] X (fun x X2 => x = 1 ∧ X2 = X) := by
  refine MXi.of (by decide +kernel) rfl rfl (Nat.le_of_ble_eq_true rfl) rfl ?_
  intro p e s m args below meth c Q hC hX hret
  obtain ⟨hn, hcap, j, b, f, ml, h0, he1, he2, hf, hL⟩ := id h
  refine wpw_getst (v := .int (zI 1)) hC hX.2.1.2.2.1 (by decide +kernel) dJ5_isLatin1_aae02_0 ?_
  refine wpw_if_eq (tgt := 17) hC dJ5_isLatin1_aae02_3 (by decide) ⟨by decide, by decide⟩ (fun c_3 => absurd c_3 (by decide)) (fun c_3 => ?_)
  refine wpw_aload_n hC dJ5_isLatin1_aae02_6 rfl ?_
  refine wpw_get (i := 0) (k := 1) (T := TJ4) (v := .int (zI 0)) hC he1 hcl (by decide) (by decide +kernel) (by decide +kernel) rfl dJ5_isLatin1_aae02_7 ?_
  refine wpw_if_ne (tgt := 17) hC dJ5_isLatin1_aae02_10 (by decide) ⟨by decide, by decide⟩ (fun c_10 => absurd rfl c_10) (fun c_10 => ?_)
  refine wpw_iconst hC dJ5_isLatin1_aae02_13 ?_
  refine wpw_goto (tgt := 18) hC dJ5_isLatin1_aae02_14 (by decide) ?_
  exact hret _ _ _ _ ⟨by decide, by decide⟩ rfl ⟨rfl, rfl⟩ dJ5_isLatin1_aae02_18

theorem hzUJ5_ensureCapacityInternal_d00df : "java/lang/AbstractStringBuilder" ≠ "java/lang/invoke/MethodHandle" ∧ "java/lang/AbstractStringBuilder" ≠ "java/lang/invoke/VarHandle" ∧ (parseMethodDescriptor "(I)V").map (fun d => d.parameters.length) = some 1 := by decide +kernel
theorem hzUJ5_isLatin1_aae02 : "java/lang/AbstractStringBuilder" ≠ "java/lang/invoke/MethodHandle" ∧ "java/lang/AbstractStringBuilder" ≠ "java/lang/invoke/VarHandle" ∧ (parseMethodDescriptor "()Z").map (fun d => d.parameters.length) = some 0 := by decide +kernel
theorem hzSJ1_canEncode_fc78d : yJ1_canEncode_fc78d.cls ≠ "java/lang/invoke/MethodHandle" ∧ yJ1_canEncode_fc78d.cls ≠ "java/lang/invoke/VarHandle" ∧ (parseMethodDescriptor yJ1_canEncode_fc78d.desc).map (fun d => d.parameters.length) = some 1 := by decide +kernel

theorem ap_upd {f : Nat → Int32} {L : List Int} {v : Int} (hL : ∀ k, k < L.length → f k = zI (L.getD k 0) ∧ 0 ≤ L.getD k 0 ∧ L.getD k 0 < 128) (hv : 0 ≤ v ∧ v < 128) {i : Nat} (hi : i = L.length) : ∀ k, k < (L ++ [v]).length → upd f i (zI v) k = zI ((L ++ [v]).getD k 0) ∧ 0 ≤ (L ++ [v]).getD k 0 ∧ (L ++ [v]).getD k 0 < 128 := fun k hk => by
  subst hi
  rw [List.length_append] at hk
  have hk2 : k < L.length + 1 := hk
  unfold upd
  by_cases e : k = L.length
  · subst e
    have e2 : (L ++ [v]).getD L.length 0 = v := by simp [List.getD]
    rw [if_pos rfl, e2]
    exact ⟨rfl, hv⟩
  · have e2 : (L ++ [v]).getD k 0 = L.getD k 0 := by simp only [List.getD]; rw [List.getElem?_append_left (by omega)]
    rw [if_neg e, e2]
    exact hL k (by omega)
set_option maxHeartbeats 4000000 in
set_option maxRecDepth 100000 in
theorem x_J5_appendC {l : Launch} {D : va_G} {cl : List vw_C} {tys : List (ClassId × FieldType)} {cB : ClassId} {Z : Ky} {X : va_W} {q cap t : Nat} {L : List Int} {v : Int} (hcl : cl[0]? = some (RJ4, TJ4, 4)) (ht : tys[t]? = some (cB, .byte)) (h : SBd cB X q L cap) (hv : 0 ≤ v ∧ v < 128) (hl : L.length ≤ 50) : MXr l yJ5_append_3fe6f wsJ5_append_3fe6f ({ frames := 4, cells := 1, slots := 200, locals := 130 } : Room) D cl tys cB Z [.ref q, .int (zI v)] X (fun r X2 => r = q ∧ ∃ cap2 : Nat, SBd cB X2 q (L ++ [v]) cap2) := by
  refine MXr.of (Or.inl ⟨_, rfl⟩) (by decide +kernel) rfl rfl (Nat.le_of_ble_eq_true rfl) rfl ?_
  intro p e s m args below meth c Q hC hX hret
  obtain ⟨hn, hcap, j, b, f, ml, h0, he1, he2, hf, hL⟩ := id h
  refine wpw_aload_n hC dJ5_append_3fe6f_0 rfl ?_
  refine wpw_aload_n hC dJ5_append_3fe6f_1 rfl ?_
  refine wpw_get (i := 0) (k := 3) (T := TJ4) (v := .int (zI L.length)) hC he1 hcl (by decide) (by decide +kernel) (by decide +kernel) rfl dJ5_append_3fe6f_2 ?_
  refine wpw_iconst hC dJ5_append_3fe6f_5 ?_
  refine wpw_iadd hC dJ5_append_3fe6f_6 ?_
  refine wpw_callUv (As := [_]) hC hX (x_J5_ensure (mn := (L.length : Int) + 1) hcl ht h ⟨by omega, by omega⟩) gJ5_append_3fe6f_J5_ensureCapacityInternal_d00df_u100J4 rfl ⟨by decide, by decide⟩ ⟨by decide, by decide⟩ rfl hzUJ5_ensureCapacityInternal_d00df he1 hcl rfl (Nat.le_of_ble_eq_true rfl) dJ5_append_3fe6f_7 (fun X_7 hp_7 => ?_)
  obtain ⟨cap2, hc2, h2⟩ := hp_7
  obtain ⟨hn2, hcap2, j2, b2, f2, ml2, h02, k1, k2, hf2, hL2⟩ := id h2
  refine wpw_aload_n hC dJ5_append_3fe6f_10 rfl ?_
  refine wpw_callUi (As := []) hC hX (x_J5_isLatin1 hcl h2) gJ5_append_3fe6f_J5_isLatin1_aae02_u83J4 rfl ⟨by decide, by decide⟩ ⟨by decide, by decide⟩ rfl hzUJ5_isLatin1_aae02 k1 hcl rfl (Nat.le_of_ble_eq_true rfl) dJ5_append_3fe6f_11 (fun x_11 Y_11 hx_11 hp_11 => ?_)
  obtain ⟨rfl, eY_11⟩ := hp_11
  have eY_11 := eY_11.symm
  subst eY_11
  refine wpw_if_eq (tgt := 45) hC dJ5_append_3fe6f_14 (by decide) ⟨by decide, by decide⟩ (fun c_14 => absurd c_14 (by decide)) (fun c_14 => ?_)
  refine wpw_iload_n hC dJ5_append_3fe6f_17 rfl ?_
  refine wpw_callSi (As := [_]) hC hX (x_J1_canEncode_fc78d (v := v) (by omega)) gJ5_append_3fe6f_J1_canEncode_fc78d rfl ⟨by decide, by decide⟩ ⟨by decide, by decide⟩ hzSJ1_canEncode_fc78d rfl (Nat.le_of_ble_eq_true rfl) dJ5_append_3fe6f_18 (fun x_18 Y_18 hx_18 hp_18 => ?_)
  obtain ⟨e18, eY_18⟩ := hp_18
  have eY_18 := eY_18.symm
  subst eY_18
  refine wpw_if_eq (tgt := 45) hC dJ5_append_3fe6f_21 (by decide) ⟨by omega, by omega⟩ (fun c_21 => absurd c_21 (by omega)) (fun c_21 => ?_)
  refine wpw_aload_n hC dJ5_append_3fe6f_24 rfl ?_
  refine wpw_get (i := 0) (k := 0) (T := TJ4) hC k1 hcl (by decide) (by decide +kernel) (by decide +kernel) rfl dJ5_append_3fe6f_25 ?_
  refine wpw_aload_n hC dJ5_append_3fe6f_28 rfl ?_
  refine wpw_dup hC dJ5_append_3fe6f_29 rfl ?_
  refine wpw_get (i := 0) (k := 3) (T := TJ4) (v := .int (zI L.length)) hC k1 hcl (by decide) (by decide +kernel) (by decide +kernel) rfl dJ5_append_3fe6f_30 ?_
  refine wpw_dup_x1 hC dJ5_append_3fe6f_33 rfl rfl ?_
  refine wpw_iconst hC dJ5_append_3fe6f_34 ?_
  refine wpw_iadd hC dJ5_append_3fe6f_35 ?_
  refine wpw_put (i := 0) (fs2 := []) (k := 3) (T := TJ4) (ty := .int) hC k1 hcl (by decide) (by decide +kernel) (by decide +kernel) tyJ4 tyJ4_ok nmJ4 rfl rfl rfl rfl (Nat.le_of_ble_eq_true rfl) rfl dJ5_append_3fe6f_36 ?_
  refine wpw_iload_n hC dJ5_append_3fe6f_39 rfl ?_
  refine wpw_i2b hC dJ5_append_3fe6f_40 hv ?_
  refine wpw_bast (i := j2) hC (by rw [List.getElem?_set_ne (by omega)]; exact k2) ht (by omega) ⟨by omega, by omega⟩ hv rfl dJ5_append_3fe6f_41 ?_
  refine wpw_goto (tgt := 75) hC dJ5_append_3fe6f_42 (by decide) ?_
  refine wpw_aload_n hC dJ5_append_3fe6f_75 rfl ?_
  exact hret _ _ _ _ ⟨rfl, cap2, (SBd_w (L2 := L ++ [v]) (f2 := upd f2 (L.length : Int).toNat (zI v)) (ml := ml2) h02 k1 k2 ⟨by rw [List.length_append]; show L.length + 1 ≤ cap2; omega, hcap2⟩ (fits_upd hf2 hv) (fun k hk => ap_upd (fun k hk => hL2 k hk) hv (by omega) k hk) _ (by rw [List.length_append]; rfl)).2⟩ dJ5_append_3fe6f_76

theorem hzSJ6_stringSize_0f7a4 : yJ6_stringSize_0f7a4.cls ≠ "java/lang/invoke/MethodHandle" ∧ yJ6_stringSize_0f7a4.cls ≠ "java/lang/invoke/VarHandle" ∧ (parseMethodDescriptor yJ6_stringSize_0f7a4.desc).map (fun d => d.parameters.length) = some 1 := by decide +kernel
theorem hzSJ6_getChars_ba4f3 : yJ6_getChars_ba4f3.cls ≠ "java/lang/invoke/MethodHandle" ∧ yJ6_getChars_ba4f3.cls ≠ "java/lang/invoke/VarHandle" ∧ (parseMethodDescriptor yJ6_getChars_ba4f3.desc).map (fun d => d.parameters.length) = some 3 := by decide +kernel

theorem nmL_two {v : Int} (h : 10 ≤ v) : nmL v = [48 + v / 10] ++ [48 + v % 10] := if_pos h
theorem nmL_one {v : Int} (h : v < 10) : nmL v = [48 + v] := if_neg (by omega)
theorem upd_comm {f : Nat → Int32} {i k : Nat} {a b : Int32} (h : i ≠ k) : upd (upd f i a) k b = upd (upd f k b) i a := by
  funext z
  unfold upd
  by_cases e : z = k
  · rw [if_pos e, if_neg (by omega), if_pos e]
  · rw [if_neg e]
    by_cases e2 : z = i
    · rw [if_pos e2, if_pos e2]
    · rw [if_neg e2, if_neg e2, if_neg e]
theorem gcF_ok {f : Nat → Int32} {L : List Int} {v x : Int} (hL : ∀ k, k < L.length → f k = zI (L.getD k 0) ∧ 0 ≤ L.getD k 0 ∧ L.getD k 0 < 128) (hv : 0 ≤ v ∧ v ≤ 99) (hx : x = L.length + (nmL v).length) (hf : ∀ k, fits .byte (.int (f k)) = true) : (∀ k, fits .byte (.int (gcF f v x k)) = true) ∧ ∀ k, k < (L ++ nmL v).length → gcF f v x k = zI ((L ++ nmL v).getD k 0) ∧ 0 ≤ (L ++ nmL v).getD k 0 ∧ (L ++ nmL v).getD k 0 < 128 := by
  unfold gcF
  by_cases h : v < 10
  · rw [if_pos h]
    rw [nmL_one h] at hx ⊢
    have hx2 : x = L.length + 1 := hx
    exact ⟨fits_upd hf (by omega), ap_upd hL (by omega) (by omega)⟩
  · rw [if_neg h]
    rw [nmL_two (by omega)] at hx ⊢
    have hx2 : x = L.length + 2 := hx
    refine ⟨fits_upd (fits_upd hf (by omega)) (by omega), ?_⟩
    rw [upd_comm (by omega), ← List.append_assoc]
    exact ap_upd (ap_upd hL (by omega) (by omega)) (by omega) (by rw [List.length_append]; show _ = L.length + 1; omega)

set_option maxHeartbeats 4000000 in
set_option maxRecDepth 100000 in
theorem x_J5_appendI {l : Launch} {D : va_G} {cl : List vw_C} {tys : List (ClassId × FieldType)} {cB : ClassId} {Z : Ky} {X : va_W} {q cap t : Nat} {L : List Int} {v : Int} (hcl : cl[0]? = some (RJ4, TJ4, 4)) (ht : tys[t]? = some (cB, .byte)) (h : SBd cB X q L cap) (hv : 0 ≤ v ∧ v ≤ 99) (hl : L.length ≤ 50) : MXr l yJ5_append_c97b9 wsJ5_append_c97b9 ({ frames := 4, cells := 1, slots := 200, locals := 130 } : Room) D cl tys cB Z [.ref q, .int (zI v)] X (fun r X2 => r = q ∧ ∃ cap2 : Nat, SBd cB X2 q (L ++ nmL v) cap2) := by
  refine MXr.of (Or.inl ⟨_, rfl⟩) (by decide +kernel) rfl rfl (Nat.le_of_ble_eq_true rfl) rfl ?_
  intro p e s m args below meth c Q hC hX hret
  obtain ⟨hn, hcap, j, b, f, ml, h0, he1, he2, hf, hL⟩ := id h
  have hnm : ((nmL v).length : Int) = if v < 10 then 1 else 2 := by
    by_cases q9 : v < 10
    · rw [nmL_one q9, if_pos q9]; rfl
    · rw [nmL_two (by omega), if_neg q9]; rfl
  refine wpw_aload_n hC dJ5_append_c97b9_0 rfl ?_
  refine wpw_get (i := 0) (k := 3) (T := TJ4) (v := .int (zI L.length)) hC he1 hcl (by decide) (by decide +kernel) (by decide +kernel) rfl dJ5_append_c97b9_1 ?_
  refine wpw_istore_n (lv2 := [(0, _), (1, _), (2, _)]) hC dJ5_append_c97b9_4 rfl (by decide) ?_
  refine wpw_iload_n hC dJ5_append_c97b9_5 rfl ?_
  refine wpw_iload_n hC dJ5_append_c97b9_6 rfl ?_
  refine wpw_callSi (As := [_]) hC hX (x_J6_stringSize_0f7a4 hv) gJ5_append_c97b9_J6_stringSize_0f7a4 rfl ⟨by decide, by decide⟩ ⟨by decide, by decide⟩ hzSJ6_stringSize_0f7a4 rfl (Nat.le_of_ble_eq_true rfl) dJ5_append_c97b9_7 (fun x_7 Y_7 hx_7 hp_7 => ?_)
  obtain ⟨e7, eY_7⟩ := hp_7
  have eY_7 := eY_7.symm
  subst eY_7
  have e8 : x_7 = (nmL v).length := e7.trans hnm.symm
  have e9 : x_7 = 1 ∧ v < 10 ∨ x_7 = 2 := by
    by_cases q9 : v < 10
    · rw [if_pos q9] at e7; omega
    · rw [if_neg q9] at e7; omega
  clear e7 hnm
  refine wpw_iadd hC dJ5_append_c97b9_10 ?_
  refine wpw_istore_n (lv2 := [(0, _), (1, _), (2, _), (3, _)]) hC dJ5_append_c97b9_11 rfl (by decide) ?_
  refine wpw_aload_n hC dJ5_append_c97b9_12 rfl ?_
  refine wpw_iload_n hC dJ5_append_c97b9_13 rfl ?_
  refine wpw_callUv (As := [_]) hC hX (x_J5_ensure (mn := (L.length : Int) + x_7) hcl ht h ⟨by omega, by omega⟩) gJ5_append_c97b9_J5_ensureCapacityInternal_d00df_u100J4 rfl ⟨by decide, by decide⟩ ⟨by decide, by decide⟩ rfl hzUJ5_ensureCapacityInternal_d00df he1 hcl rfl (Nat.le_of_ble_eq_true rfl) dJ5_append_c97b9_14 (fun X_14 hp_14 => ?_)
  obtain ⟨cap2, hc2, h2⟩ := hp_14
  obtain ⟨hn2, hcap2, j2, b2, f2, ml2, h02, k1, k2, hf2, hL2⟩ := id h2
  refine wpw_aload_n hC dJ5_append_c97b9_17 rfl ?_
  refine wpw_callUi (As := []) hC hX (x_J5_isLatin1 hcl h2) gJ5_append_c97b9_J5_isLatin1_aae02_u83J4 rfl ⟨by decide, by decide⟩ ⟨by decide, by decide⟩ rfl hzUJ5_isLatin1_aae02 k1 hcl rfl (Nat.le_of_ble_eq_true rfl) dJ5_append_c97b9_18 (fun x_18 Y_18 hx_18 hp_18 => ?_)
  obtain ⟨rfl, eY_18⟩ := hp_18
  have eY_18 := eY_18.symm
  subst eY_18
  refine wpw_if_eq (tgt := 37) hC dJ5_append_c97b9_21 (by decide) ⟨by decide, by decide⟩ (fun c_21 => absurd c_21 (by decide)) (fun c_21 => ?_)
  refine wpw_iload_n hC dJ5_append_c97b9_24 rfl ?_
  refine wpw_iload_n hC dJ5_append_c97b9_25 rfl ?_
  refine wpw_aload_n hC dJ5_append_c97b9_26 rfl ?_
  refine wpw_get (i := 0) (k := 0) (T := TJ4) hC k1 hcl (by decide) (by decide +kernel) (by decide +kernel) rfl dJ5_append_c97b9_27 ?_
  refine wpw_callSi (As := [_, _, _]) hC hX (c_J6_getChars (v := v) (x := (L.length : Int) + x_7) k2 ht (by omega) hv (by omega)) gJ5_append_c97b9_J6_getChars_ba4f3 rfl ⟨by decide, by decide⟩ ⟨by decide, by decide⟩ hzSJ6_getChars_ba4f3 rfl (Nat.le_of_ble_eq_true rfl) dJ5_append_c97b9_30 (fun x_30 Y_30 hx_30 hp_30 => ?_)
  subst hp_30
  refine wpw_pop hC dJ5_append_c97b9_33 rfl ?_
  refine wpw_goto (tgt := 48) hC dJ5_append_c97b9_34 (by decide) ?_
  refine wpw_aload_n hC dJ5_append_c97b9_48 rfl ?_
  refine wpw_iload_n hC dJ5_append_c97b9_49 rfl ?_
  refine wpw_put (i := 0) (fs2 := []) (k := 3) (T := TJ4) (ty := .int) hC (by rw [List.getElem?_set_ne (by omega)]; exact k1) hcl (by decide) (by decide +kernel) (by decide +kernel) tyJ4 tyJ4_ok nmJ4 rfl rfl rfl rfl (Nat.le_of_ble_eq_true rfl) rfl dJ5_append_c97b9_50 ?_
  refine wpw_aload_n hC dJ5_append_c97b9_53 rfl ?_
  refine wpw_more (cells2 := 1) (slots2 := 200) (by decide) (by decide) ?_
  have hg := gcF_ok hL2 hv (x := (L.length : Int) + x_7) (by omega) hf2
  exact hret _ _ _ _ ⟨rfl, cap2, (SBd_w (L2 := L ++ nmL v) (ml := ml2) h02 k1 k2 ⟨by rw [List.length_append]; omega, hcap2⟩ hg.1 hg.2 _ (by rw [List.length_append, Int.natCast_add, ← e8]; rfl)).1⟩ dJ5_append_c97b9_54
