theorem sh_0 : ∀ m : Nat, m < 512 → ishl m 0 = m ∧ ishr m 0 = m := by decide +kernel
theorem x_J5_newCapacity {l : Launch} {D : va_G} {cl : List vw_C} {tys : List (ClassId × FieldType)} {cB : ClassId} {Z : Ky} {X : va_W} {i j t b q n : Nat} {f : Nat → Int32} {mn ml cnt : Int} (hcl : cl[0]? = some (RJ4, TJ4, 4)) (he1 : X[i]? = some (q, .inr (0, [.ref b, .int (zI 0), .int (zI ml), .int (zI cnt)]))) (he2 : X[j]? = some (b, .inl (cB, n, .inl f))) (ht : tys[t]? = some (cB, .byte)) (hm : 1 ≤ mn ∧ mn ≤ 99 ∧ (n : Int) < mn) : MXi l yJ5_newCapacity_0f7a4 wsJ5_newCapacity_0f7a4 ({ frames := 2, cells := 0, slots := 0, locals := 60 } : Room) D cl tys cB Z [.ref q, .int (zI mn)] X (fun x X2 => x = n + max (mn - n) (n + 2) ∧ X2 = X) := by
  refine MXi.of (by decide +kernel) rfl rfl (Nat.le_of_ble_eq_true rfl) rfl ?_
  intro p e s m args below meth c Q hC hX hret
  obtain ⟨k, rfl⟩ := Int.eq_ofNat_of_zero_le (show 0 ≤ mn by omega)
  refine wpw_aload_n hC dJ5_newCapacity_0f7a4_0 rfl ?_
  refine wpw_get (k := 0) (T := TJ4) hC he1 hcl (by decide) (by decide +kernel) (by decide +kernel) rfl dJ5_newCapacity_0f7a4_1 ?_
  refine wpw_alen hC he2 ht dJ5_newCapacity_0f7a4_4 ?_
  refine wpw_istore_n (lv2 := [(0, _), (1, _), (2, _)]) hC dJ5_newCapacity_0f7a4_5 rfl (by decide) ?_
  refine wpw_iload_n hC dJ5_newCapacity_0f7a4_6 rfl ?_
  refine wpw_aload_n hC dJ5_newCapacity_0f7a4_7 rfl ?_
  refine wpw_get (k := 1) (T := TJ4) (v := .int (zI 0)) hC he1 hcl (by decide) (by decide +kernel) (by decide +kernel) rfl dJ5_newCapacity_0f7a4_8 ?_
  refine wpw_ishl hC dJ5_newCapacity_0f7a4_11 ?_
  refine wpw_top (b := (k : Int)) (sh_0 k (by omega)).1 ?_
  refine wpw_istore_n (lv2 := [(0, _), (1, _), (2, _), (3, _)]) hC dJ5_newCapacity_0f7a4_12 rfl (by decide) ?_
  refine wpw_iload_n hC dJ5_newCapacity_0f7a4_13 rfl ?_
  refine wpw_iload_n hC dJ5_newCapacity_0f7a4_14 rfl ?_
  refine wpw_isub hC dJ5_newCapacity_0f7a4_15 ?_
  refine wpw_istore (lv2 := [(0, _), (1, _), (2, _), (3, _), (4, _)]) hC dJ5_newCapacity_0f7a4_16 rfl (by decide) ?_
  refine wpw_iload_n hC dJ5_newCapacity_0f7a4_18 rfl ?_
  refine wpw_iload hC dJ5_newCapacity_0f7a4_19 rfl ?_
  refine wpw_iload_n hC dJ5_newCapacity_0f7a4_21 rfl ?_
  refine wpw_iconst hC dJ5_newCapacity_0f7a4_22 ?_
  refine wpw_aload_n hC dJ5_newCapacity_0f7a4_23 rfl ?_
  refine wpw_get (k := 1) (T := TJ4) (v := .int (zI 0)) hC he1 hcl (by decide) (by decide +kernel) (by decide +kernel) rfl dJ5_newCapacity_0f7a4_24 ?_
  refine wpw_ishl hC dJ5_newCapacity_0f7a4_27 ?_
  refine wpw_top (b := 2) (sh_0 2 (by decide)).1 ?_
  refine wpw_iadd hC dJ5_newCapacity_0f7a4_28 ?_
  refine wpw_callSi (As := [_, _, _]) hC hX (x_J8_newLength_cabcc (a := n) (b := k - n) (c1 := n + 2) (by omega) (by omega) (by omega)) gJ5_newCapacity_0f7a4_J8_newLength_cabcc rfl ⟨by decide, by decide⟩ ⟨by decide, by decide⟩ hySJ8_newLength_cabcc rfl (Nat.le_of_ble_eq_true rfl) dJ5_newCapacity_0f7a4_29 (fun x_29 X_29 hx_29 hp_29 => ?_)
  obtain ⟨e29, e29s⟩ := hp_29
  subst e29s
  obtain ⟨r, hr⟩ : ∃ r : Nat, (r : Int) = x_29 := ⟨x_29.toNat, by omega⟩
  refine wpw_istore (lv2 := [(0, _), (1, _), (2, _), (3, _), (4, _), (5, _)]) hC dJ5_newCapacity_0f7a4_32 rfl (by decide) ?_
  refine wpw_iload hC dJ5_newCapacity_0f7a4_34 rfl ?_
  refine wpw_ldc (n := 2147483647) hC dJ5_newCapacity_0f7a4_36 (by decide +kernel) ?_
  refine wpw_icmp_ne (tgt := 51) hC dJ5_newCapacity_0f7a4_38 (by decide) hx_29 ⟨by decide, by decide⟩ (fun c_38 => ?_) (fun c_38 => absurd c_38 (by omega))
  refine wpw_iload hC dJ5_newCapacity_0f7a4_51 rfl ?_
  refine wpw_aload_n hC dJ5_newCapacity_0f7a4_53 rfl ?_
  refine wpw_get (k := 1) (T := TJ4) (v := .int (zI 0)) hC he1 hcl (by decide) (by decide +kernel) (by decide +kernel) rfl dJ5_newCapacity_0f7a4_54 ?_
  refine wpw_ishr hC dJ5_newCapacity_0f7a4_57 ?_
  refine wpw_top (b := x_29) (by rw [← hr]; exact (sh_0 r (by omega)).2) ?_
  exact hret _ _ _ _ hx_29 rfl ⟨e29, rfl⟩ dJ5_newCapacity_0f7a4_58
