/-- figures written before a place -/
def gcF (f : Nat → Int32) (v x : Int) : Nat → Int32 := if v < 10 then upd f (x + -1).toNat (zI (48 + v)) else upd (upd f (x + -1).toNat (zI (48 + v % 10))) (x + -1 + -1).toNat (zI (48 + v / 10))
theorem c_J6_getChars {l : Launch} {D : va_G} {cl : List vw_C} {tys : List (ClassId × FieldType)} {cB : ClassId} {Z : Ky} {X : va_W} {k t b n : Nat} {f : Nat → Int32} {v x : Int} (he : X[k]? = some (b, .inl (cB, n, .inl f))) (ht : tys[t]? = some (cB, .byte)) (hn : n ≤ 4000) (hv : 0 ≤ v ∧ v ≤ 99) (hx : 2 ≤ x ∧ x ≤ n ∨ (v < 10 ∧ 1 ≤ x ∧ x ≤ n)) : MXi l yJ6_getChars_ba4f3 wsJ6_getChars_ba4f3 ({ frames := 0, cells := 0, slots := 0, locals := 0 } : Room) D cl tys cB Z [.int (zI v), .int (zI x), .ref b] X (fun _ X2 => X2 = X.set k (b, .inl (cB, n, .inl (gcF f v x)))) := by
  refine MXi.of (by decide +kernel) rfl rfl (Nat.le_of_ble_eq_true rfl) rfl ?_
  intro p e s m args below meth c Q hC hX hret
  obtain ⟨hcB, hS, dO, dT, ⟨z1, t1⟩, z2, t2⟩ := hX
  have hk : k < X.length := (List.getElem?_eq_some_iff.mp he).1
  refine wpw_iload_n hC dJ6_getChars_ba4f3_0 rfl ?_
  refine wpw_istore (lv2 := [(0, _), (1, _), (2, _), (5, _)]) hC dJ6_getChars_ba4f3_1 rfl (by decide) ?_
  refine wpw_iload_n hC dJ6_getChars_ba4f3_3 rfl ?_
  refine wpw_if_ge (tgt := 11) hC dJ6_getChars_ba4f3_4 (by decide) ⟨by omega, by omega⟩ (fun c_4 => ?_) (fun c_4 => absurd c_4 (by omega))
  refine wpw_iconst hC dJ6_getChars_ba4f3_11 ?_
  refine wpw_istore (lv2 := [(0, _), (1, _), (2, _), (5, _), (6, _)]) hC dJ6_getChars_ba4f3_12 rfl (by decide) ?_
  refine wpw_iload hC dJ6_getChars_ba4f3_14 rfl ?_
  refine wpw_if_ne (tgt := 22) hC dJ6_getChars_ba4f3_16 (by decide) ⟨by decide, by decide⟩ (fun c_16 => absurd rfl c_16) (fun c_16 => ?_)
  refine wpw_iload_n hC dJ6_getChars_ba4f3_19 rfl ?_
  refine wpw_ineg hC dJ6_getChars_ba4f3_20 ?_
  refine wpw_istore_n (lv2 := [(0, _), (1, _), (2, _), (5, _), (6, _)]) hC dJ6_getChars_ba4f3_21 rfl (by decide) ?_
  refine wpw_iload_n hC dJ6_getChars_ba4f3_22 rfl ?_
  refine wpw_bipush hC dJ6_getChars_ba4f3_23 rfl ?_
  refine wpw_icmp_gt (tgt := 72) hC dJ6_getChars_ba4f3_25 (by decide) ⟨by omega, by omega⟩ ⟨by decide, by decide⟩ (fun c_25 => ?_) (fun c_25 => absurd c_25 (by omega))
  refine wpw_aload_n hC dJ6_getChars_ba4f3_72 rfl ?_
  refine wpw_iinc (lv2 := [(0, _), (1, _), (2, _), (5, _), (6, _)]) hC dJ6_getChars_ba4f3_73 rfl rfl (by decide) ?_
  refine wpw_iload hC dJ6_getChars_ba4f3_76 rfl ?_
  refine wpw_getst hC z1 (by decide +kernel) dJ6_getChars_ba4f3_78 ?_
  refine wpw_iload_n hC dJ6_getChars_ba4f3_81 rfl ?_
  refine wpw_ineg hC dJ6_getChars_ba4f3_82 ?_
  refine wpw_top (b := v) (by omega) ?_
  refine wpw_tb (v := .int (zI (48 + v % 10))) hC t1 (by omega) (by decide) (by rw [Int.toNat_of_nonneg hv.1]) dJ6_getChars_ba4f3_83 ?_
  refine wpw_bast hC he ht hn (by omega) (by omega) rfl dJ6_getChars_ba4f3_84 ?_
  refine wpw_iload_n hC dJ6_getChars_ba4f3_85 rfl ?_
  refine wpw_bipush hC dJ6_getChars_ba4f3_86 rfl ?_
  refine wpw_icmp_ge (tgt := 104) hC dJ6_getChars_ba4f3_88 (by decide) ⟨by omega, by omega⟩ ⟨by decide, by decide⟩ (fun c_88 => ?_) (fun c_88 => ?_)
  · refine wpw_iload hC dJ6_getChars_ba4f3_104 rfl ?_
    refine wpw_if_eq (tgt := 118) hC dJ6_getChars_ba4f3_106 (by decide) ⟨by decide, by decide⟩ (fun c_106 => ?_) (fun c_106 => absurd rfl c_106)
    refine wpw_iload hC dJ6_getChars_ba4f3_118 rfl ?_
    exact hret _ _ _ _ ⟨by omega, by omega⟩ rfl (by unfold gcF; rw [if_pos (by omega), show v % 10 = v by omega]) dJ6_getChars_ba4f3_120
  · refine wpw_aload_n hC dJ6_getChars_ba4f3_91 rfl ?_
    refine wpw_iinc (lv2 := [(0, _), (1, _), (2, _), (5, _), (6, _)]) hC dJ6_getChars_ba4f3_92 rfl rfl (by decide) ?_
    refine wpw_iload hC dJ6_getChars_ba4f3_95 rfl ?_
    refine wpw_getst hC z2 (by decide +kernel) dJ6_getChars_ba4f3_97 ?_
    refine wpw_iload_n hC dJ6_getChars_ba4f3_100 rfl ?_
    refine wpw_ineg hC dJ6_getChars_ba4f3_101 ?_
    refine wpw_top (b := v) (by omega) ?_
    refine wpw_tb (v := .int (zI (48 + v / 10))) hC t2 (by omega) (by decide) (by rw [Int.toNat_of_nonneg hv.1]) dJ6_getChars_ba4f3_102 ?_
    refine wpw_bast hC (List.getElem?_set_self hk) ht hn (by omega) (by omega) rfl dJ6_getChars_ba4f3_103 ?_
    refine wpw_iload hC dJ6_getChars_ba4f3_104 rfl ?_
    refine wpw_if_eq (tgt := 118) hC dJ6_getChars_ba4f3_106 (by decide) ⟨by decide, by decide⟩ (fun c_106 => ?_) (fun c_106 => absurd rfl c_106)
    refine wpw_iload hC dJ6_getChars_ba4f3_118 rfl ?_
    exact hret _ _ _ _ ⟨by omega, by omega⟩ rfl (by unfold gcF; rw [if_neg (by omega), List.set_set]) dJ6_getChars_ba4f3_120
