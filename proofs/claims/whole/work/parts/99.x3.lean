theorem x_J7_copyOf {l : Launch} {D : va_G} {cl : List vw_C} {tys : List (ClassId × FieldType)} {cB : ClassId} {Z : Ky} {X : va_W} {i t b n : Nat} {f : Nat → Int32} {k : Int} (he : X[i]? = some (b, .inl (cB, n, .inl f))) (ht : tys[t]? = some (cB, .byte)) (hk : (n : Int) < k ∧ k ≤ 200) (hfit : ∀ q, fits .byte (.int (f q)) = true) : MXr l yJ7_copyOf_9075b wsJ7_copyOf_9075b ({ frames := 1, cells := 1, slots := 200, locals := 40 } : Room) D cl tys cB Z [.ref b, .int (zI k)] X (fun q X2 => X2 = X ++ [(q, .inl (cB, k.toNat, .inl (va_cpy f (fun _ => 0) 0 0 n)))]) := by
  refine MXr.of (Or.inr ⟨_, rfl⟩) (by decide +kernel) rfl rfl (Nat.le_of_ble_eq_true rfl) rfl ?_
  intro p e s m args below meth c Q hC hX hret
  have hi : i < X.length := (List.getElem?_eq_some_iff.mp he).1
  refine wpw_iload_n hC dJ7_copyOf_9075b_0 rfl ?_
  refine wpw_aload_n hC dJ7_copyOf_9075b_1 rfl ?_
  refine wpw_alen hC he ht dJ7_copyOf_9075b_2 ?_
  refine wpw_icmp_ne (tgt := 14) hC dJ7_copyOf_9075b_3 (by decide) ⟨by omega, by omega⟩ ⟨by omega, by omega⟩ (fun c_3 => ?_) (fun c_3 => absurd c_3 (by omega))
  refine wpw_iload_n hC dJ7_copyOf_9075b_14 rfl ?_
  refine wpw_newc hC hX.1 ⟨by omega, by omega⟩ (by decide +kernel) (by decide) (show 0 + k.toNat ≤ 200 by omega) dJ7_copyOf_9075b_15 (fun q hq => ?_)
  refine wpw_astore_n (lv2 := [(0, _), (1, _), (2, _)]) hC dJ7_copyOf_9075b_17 rfl (by decide) ?_
  refine wpw_aload_n hC dJ7_copyOf_9075b_18 rfl ?_
  refine wpw_iconst hC dJ7_copyOf_9075b_19 ?_
  refine wpw_aload_n hC dJ7_copyOf_9075b_20 rfl ?_
  refine wpw_iconst hC dJ7_copyOf_9075b_21 ?_
  refine wpw_aload_n hC dJ7_copyOf_9075b_22 rfl ?_
  refine wpw_alen hC (by rw [List.getElem?_append_left hi]; exact he) ht dJ7_copyOf_9075b_23 ?_
  refine wpw_iload_n hC dJ7_copyOf_9075b_24 rfl ?_
  refine wpw_mmin hC (by decide +kernel) (by decide +kernel) (by decide +kernel) (by decide +kernel) (Nat.le_of_ble_eq_true rfl) (Nat.le_of_ble_eq_true rfl) ⟨by decide, show 0 + k.toNat ≤ 200 by omega⟩ ⟨by omega, by omega⟩ ⟨by omega, by omega⟩ dJ7_copyOf_9075b_25 ?_
  refine wpw_top (b := (n : Int)) (by omega) ?_
  refine wpw_copy hC (by rw [List.getElem?_append_left hi]; exact he) (by rw [List.getElem?_append_right (Nat.le_refl _), Nat.sub_self]; rfl) ht (by omega) ⟨by omega, by omega, by omega⟩ hfit (by decide +kernel) (by decide +kernel) (by decide +kernel) (by decide +kernel) (Nat.le_of_ble_eq_true rfl) (Nat.le_of_ble_eq_true rfl) rfl dJ7_copyOf_9075b_28 ?_
  refine wpw_aload_n hC dJ7_copyOf_9075b_31 rfl ?_
  refine wpw_more (cells2 := 1) (slots2 := 200) (by decide) (show 0 + k.toNat ≤ 200 by omega) ?_
  exact hret _ _ _ _ (by rw [List.set_append_right _ _ (Nat.le_refl _), Nat.sub_self]; rfl) dJ7_copyOf_9075b_32
