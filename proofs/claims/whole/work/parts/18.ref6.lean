theorem put_id {σ : St} {i : Nat} {k u : Int} : put (put σ i k u) i k (σ i k) = σ := by
  rw [put_put]
  exact put_same rfl
theorem RO_am {σ : St} {k v : Int} (h : RO σ) (h2 : 0 ≤ v ∧ v ≤ 60) : RO (put σ 2 k v) :=
  ⟨h.1, h.2.1, fun o a b => by
    rw [put_e]
    have := h.2.2.1 o a b
    split <;> omega, h.2.2.2⟩
/-- an order could be promised, its latest another -/
def CANl (σ : St) (o B j : Int) : Prop := CAN (put σ 1 (64 + o) j) o (ior B (pw o))
def CANa (σ : St) (o B j : Int) : Prop := CAN (put σ 2 o j) o (ior B (pw o))

theorem hyVX9_earliest : yX9_earliest.cls = RX9 ∧ yX9_earliest.cls ≠ "java/lang/invoke/MethodHandle" ∧ yX9_earliest.cls ≠ "java/lang/invoke/VarHandle" ∧ (parseMethodDescriptor yX9_earliest.desc).map (fun d => d.parameters.length) = some 2 := by decide +kernel
theorem uX9_earliest_X9 : ∀ w ∈ u_ws RX9 TX9 35, w ∈ wsX9_earliest := by decide +kernel
theorem fX9_earliest_9 : Cond.fieldLink RX9 9 (TX9 0).1 (TX9 0).2.1 (TX9 0).2.2.1 ∈ wsX9_earliest := by decide +kernel
set_option maxHeartbeats 4000000 in
set_option maxRecDepth 100000 in
theorem c_X9_earliest {l : Launch} {G : Gy} (hG : Inj G) (σ : St) {o B : Int} (h : RO σ) (ho : 0 ≤ o ∧ o < 24) (hB : 0 ≤ B ∧ B ≤ 2147483647) : MI l yX9_earliest wsX9_earliest ({ frames := 6, cells := 0, slots := 0, locals := 136 } : Room) G [.ref (G.2.2 0), .int (zI (o)), .int (zI (B))] σ (fun x σ2 => ((x = -2 ∧ ∀ j, 0 ≤ j → j < 12 → ¬ CANl σ o B j) ∨ (0 ≤ x ∧ x < 12 ∧ CANl σ o B x ∧ ∀ j, 0 ≤ j → j < x → ¬ CANl σ o B j)) ∧ ∃ τ, σ2 = S1 σ τ) := by
  refine MI.of hG (by decide +kernel) rfl rfl (Nat.le_of_ble_eq_true rfl) rfl ?_
  intro p e s m args below meth c H0 Q hC hret
  have hl := h.2.1.2.2.2 (64 + o) (by omega) (by omega)
  have L17 : ∀ (n : Nat) (k x u : Int) (τ : St), ((12 - k).toNat) = n → (0 ≤ k ∧ k ≤ 12) → (-2 ≤ x ∧ x < 12) → ((x = -2 ∧ ∀ j, 0 ≤ j → j < k → ¬ CANl σ o B j) ∨ (0 ≤ x ∧ x < 12 ∧ CANl σ o B x ∧ ∀ j, 0 ≤ j → j < x → ¬ CANl σ o B j)) → wp p l e ({ frames := 6, cells := 0, slots := 0, locals := 136 } : Room) s m args below meth c (aA G (Array.size H0)) H0 6 Q G (S1 (put σ 1 (64 + o) u) τ) 17 [(0, .ref (G.2.2 0)), (1, .int (zI (o))), (2, .int (zI (B))), (3, .int (zI (σ 1 (64 + o)))), (4, .int (zI (x))), (5, .int (zI (k)))] [] := by
    intro n17
    induction n17 using Nat.strongRecOn with
    | ind n17 ih =>
      intro k x u τ hm17 h1 hx h2
      refine wp_iload hC dX9_earliest_17 rfl ?_
      refine wp_bipush hC dX9_earliest_19 rfl ?_
      refine wp_icmp_ge (tgt := 64) hC dX9_earliest_21 (by decide) (by clear h2; omega) (by omega) (fun c_21 => ?_) (fun c_21 => ?_)
      · refine wp_aload_n hC dX9_earliest_64 rfl ?_
        refine wp_geta (k := 0) hC (rfl) (by decide) (rfl) (rfl) (by decide) uX9_earliest_X9 fX9_earliest_9 (rfl) dX9_earliest_65 ?_
        refine wp_bipush hC dX9_earliest_68 rfl ?_
        refine wp_iload_n hC dX9_earliest_70 rfl ?_
        refine wp_iadd hC dX9_earliest_71 ?_
        refine wp_iload_n hC dX9_earliest_72 rfl ?_
        refine wp_iast (n := 88) hC (rfl) (Nat.le_of_ble_eq_true rfl) (rfl) (by decide) (by omega) dX9_earliest_73 ?_
        refine wp_st (σ2 := S1 σ τ) (by rw [S1_putc rfl, put_id]) ?_
        refine wp_iload hC dX9_earliest_74 rfl ?_
        exact hret _ _ _ _ (by clear h2; omega) rfl (⟨by
          rcases h2 with ⟨q1, q2⟩ | q
          · exact Or.inl ⟨q1, fun j a b => q2 j a (by omega)⟩
          · exact Or.inr q, _, rfl⟩) dX9_earliest_76
      · refine wp_iload hC dX9_earliest_24 rfl ?_
        refine wp_if_ge (tgt := 64) hC dX9_earliest_26 (by decide) (by clear h2; omega) (fun c_26 => ?_) (fun c_26 => ?_)
        · refine wp_aload_n hC dX9_earliest_64 rfl ?_
          refine wp_geta (k := 0) hC (rfl) (by decide) (rfl) (rfl) (by decide) uX9_earliest_X9 fX9_earliest_9 (rfl) dX9_earliest_65 ?_
          refine wp_bipush hC dX9_earliest_68 rfl ?_
          refine wp_iload_n hC dX9_earliest_70 rfl ?_
          refine wp_iadd hC dX9_earliest_71 ?_
          refine wp_iload_n hC dX9_earliest_72 rfl ?_
          refine wp_iast (n := 88) hC (rfl) (Nat.le_of_ble_eq_true rfl) (rfl) (by decide) (by omega) dX9_earliest_73 ?_
          refine wp_st (σ2 := S1 σ τ) (by rw [S1_putc rfl, put_id]) ?_
          refine wp_iload hC dX9_earliest_74 rfl ?_
          exact hret _ _ _ _ (by clear h2; omega) rfl (⟨by
            rcases h2 with ⟨q1, q2⟩ | q
            · exact Or.inl ⟨q1, fun j a b => q2 j a (by omega)⟩
            · exact Or.inr q, _, rfl⟩) dX9_earliest_76
        · refine wp_aload_n hC dX9_earliest_29 rfl ?_
          refine wp_geta (k := 0) hC (rfl) (by decide) (rfl) (rfl) (by decide) uX9_earliest_X9 fX9_earliest_9 (rfl) dX9_earliest_30 ?_
          refine wp_bipush hC dX9_earliest_33 rfl ?_
          refine wp_iload_n hC dX9_earliest_35 rfl ?_
          refine wp_iadd hC dX9_earliest_36 ?_
          refine wp_iload hC dX9_earliest_37 rfl ?_
          refine wp_iast (n := 88) hC (rfl) (Nat.le_of_ble_eq_true rfl) (rfl) (by decide) (by omega) dX9_earliest_39 ?_
          refine wp_st (σ2 := S1 (put σ 1 (64 + o) k) τ) (by rw [S1_putc rfl, put_put]) ?_
          have hρ : RO (put σ 1 (64 + o) k) := RO_w h (k := 64 + o) (v := k) (by clear h2; omega)
          refine wp_aload_n hC dX9_earliest_40 rfl ?_
          refine wp_iload_n hC dX9_earliest_41 rfl ?_
          refine wp_iload_n hC dX9_earliest_42 rfl ?_
          refine wp_callVi (As := [_, _]) hC (c_X9_canBe hG (S1 (put σ 1 (64 + o) k) τ) hρ (by omega) (by omega)) gX9_earliest_X9_canBe rfl ⟨rfl, rfl⟩ ⟨by decide, by decide⟩ hyVX9_canBe (rfl) (by decide) (rfl) rfl (Nat.le_of_ble_eq_true rfl) dX9_earliest_43 (fun x_43 s_43 hx_43 hp_43 => ?_)
          obtain ⟨hb_43, τ1, rfl⟩ := hp_43
          have hb_43 : bP x_43 (CANl σ o B k) := hb_43
          refine wp_if_eq (tgt := 54) hC dX9_earliest_46 (by decide) (bP_iR hb_43) (fun c_46 => ?_) (fun c_46 => ?_)
          · refine wp_st (σ2 := S1 (put σ 1 (64 + o) k) τ1) (S1_S1 _ _ _) ?_
            refine wp_bipush hC dX9_earliest_54 rfl ?_
            refine wp_istore (lv2 := [(0, _), (1, _), (2, _), (3, _), (4, _), (5, _)]) hC dX9_earliest_56 rfl (by decide) ?_
            refine wp_iinc (lv2 := [(0, _), (1, _), (2, _), (3, _), (4, _), (5, _)]) hC dX9_earliest_58 rfl rfl (by decide) ?_
            refine wp_goto (tgt := 17) hC dX9_earliest_61 (by decide) ?_
            exact ih _ (by clear h2; omega) _ _ _ _ rfl (by clear h2; omega) (by omega) (Or.inl ⟨rfl, fun j a b => by
              rcases Int.lt_or_le j k with z | z
              · rcases h2 with ⟨_, h2⟩ | ⟨h2, _⟩
                · exact h2 j a z
                · omega
              · rw [show j = k by omega]; exact bP_0 hb_43 c_46⟩)
          · refine wp_st (σ2 := S1 (put σ 1 (64 + o) k) τ1) (S1_S1 _ _ _) ?_
            refine wp_iload hC dX9_earliest_49 rfl ?_
            refine wp_goto (tgt := 56) hC dX9_earliest_51 (by decide) ?_
            refine wp_istore (lv2 := [(0, _), (1, _), (2, _), (3, _), (4, _), (5, _)]) hC dX9_earliest_56 rfl (by decide) ?_
            refine wp_iinc (lv2 := [(0, _), (1, _), (2, _), (3, _), (4, _), (5, _)]) hC dX9_earliest_58 rfl rfl (by decide) ?_
            refine wp_goto (tgt := 17) hC dX9_earliest_61 (by decide) ?_
            exact ih _ (by clear h2; omega) _ _ _ _ rfl (by clear h2; omega) (by clear h2; omega) (Or.inr ⟨h1.1, c_21, bP_1 hb_43 c_46, fun j a b => by
              rcases h2 with ⟨_, h2⟩ | ⟨h2, _⟩
              · exact h2 j a b
              · omega⟩)
  refine wp_aload_n hC dX9_earliest_0 rfl ?_
  refine wp_geta (k := 0) hC (rfl) (by decide) (rfl) (rfl) (by decide) uX9_earliest_X9 fX9_earliest_9 (rfl) dX9_earliest_1 ?_
  refine wp_bipush hC dX9_earliest_4 rfl ?_
  refine wp_iload_n hC dX9_earliest_6 rfl ?_
  refine wp_iadd hC dX9_earliest_7 ?_
  refine wp_iald (n := 88) hC (rfl) (Nat.le_of_ble_eq_true rfl) (rfl) (by decide) (by omega) dX9_earliest_8 ?_
  refine wp_istore_n (lv2 := [(0, _), (1, _), (2, _), (3, _)]) hC dX9_earliest_9 rfl (by decide) ?_
  refine wp_bipush hC dX9_earliest_10 rfl ?_
  refine wp_istore (lv2 := [(0, _), (1, _), (2, _), (3, _), (4, _)]) hC dX9_earliest_12 rfl (by decide) ?_
  refine wp_iconst hC dX9_earliest_14 ?_
  refine wp_istore (lv2 := [(0, _), (1, _), (2, _), (3, _), (4, _), (5, _)]) hC dX9_earliest_15 rfl (by decide) ?_
  refine wp_st (σ2 := S1 (put σ 1 (64 + o) (σ 1 (64 + o))) σ) (by rw [put_same rfl]; exact (S1_self σ).symm) ?_
  exact L17 _ _ _ _ _ rfl (by omega) (by omega) (Or.inl ⟨rfl, fun j a b => by omega⟩)

theorem hyVX9_asMuch : yX9_asMuch.cls = RX9 ∧ yX9_asMuch.cls ≠ "java/lang/invoke/MethodHandle" ∧ yX9_asMuch.cls ≠ "java/lang/invoke/VarHandle" ∧ (parseMethodDescriptor yX9_asMuch.desc).map (fun d => d.parameters.length) = some 2 := by decide +kernel
theorem uX9_asMuch_X9 : ∀ w ∈ u_ws RX9 TX9 35, w ∈ wsX9_asMuch := by decide +kernel
theorem fX9_asMuch_13 : Cond.fieldLink RX9 13 (TX9 1).1 (TX9 1).2.1 (TX9 1).2.2.1 ∈ wsX9_asMuch := by decide +kernel
set_option maxHeartbeats 4000000 in
set_option maxRecDepth 100000 in
theorem c_X9_asMuch {l : Launch} {G : Gy} (hG : Inj G) (σ : St) {o B : Int} (h : RO σ) (ho : 0 ≤ o ∧ o < 24) (hB : 0 ≤ B ∧ B ≤ 2147483647) : MI l yX9_asMuch wsX9_asMuch ({ frames := 6, cells := 0, slots := 0, locals := 136 } : Room) G [.ref (G.2.2 0), .int (zI (o)), .int (zI (B))] σ (fun x σ2 => ((x = -2 ∧ ∀ j, 0 < j → j ≤ 60 → ¬ CANa σ o B j) ∨ (0 < x ∧ x ≤ 60 ∧ CANa σ o B x ∧ ∀ j, x < j → j ≤ 60 → ¬ CANa σ o B j)) ∧ ∃ τ, σ2 = S1 σ τ) := by
  refine MI.of hG (by decide +kernel) rfl rfl (Nat.le_of_ble_eq_true rfl) rfl ?_
  intro p e s m args below meth c H0 Q hC hret
  have hl := h.2.2.1 o ho.1 ho.2
  have L15 : ∀ (n : Nat) (k x u : Int) (τ : St), (k.toNat) = n → (0 ≤ k ∧ k ≤ 60) → (-2 ≤ x ∧ x ≤ 60) → ((x = -2 ∧ ∀ j, k < j → j ≤ 60 → ¬ CANa σ o B j) ∨ (0 < x ∧ x ≤ 60 ∧ CANa σ o B x ∧ ∀ j, x < j → j ≤ 60 → ¬ CANa σ o B j)) → wp p l e ({ frames := 6, cells := 0, slots := 0, locals := 136 } : Room) s m args below meth c (aA G (Array.size H0)) H0 6 Q G (S1 (put σ 2 o u) τ) 15 [(0, .ref (G.2.2 0)), (1, .int (zI (o))), (2, .int (zI (B))), (3, .int (zI (σ 2 o))), (4, .int (zI (x))), (5, .int (zI (k)))] [] := by
    intro n15
    induction n15 using Nat.strongRecOn with
    | ind n15 ih =>
      intro k x u τ hm15 h1 hx h2
      refine wp_iload hC dX9_asMuch_15 rfl ?_
      refine wp_if_le (tgt := 57) hC dX9_asMuch_17 (by decide) (by clear h2; omega) (fun c_17 => ?_) (fun c_17 => ?_)
      · refine wp_aload_n hC dX9_asMuch_57 rfl ?_
        refine wp_geta (k := 1) hC (rfl) (by decide) (rfl) (rfl) (by decide) uX9_asMuch_X9 fX9_asMuch_13 (rfl) dX9_asMuch_58 ?_
        refine wp_iload_n hC dX9_asMuch_61 rfl ?_
        refine wp_iload_n hC dX9_asMuch_62 rfl ?_
        refine wp_iast (n := 24) hC (rfl) (Nat.le_of_ble_eq_true rfl) (rfl) (by decide) (by omega) dX9_asMuch_63 ?_
        refine wp_st (σ2 := S1 σ τ) (by rw [S1_putc rfl, put_id]) ?_
        refine wp_iload hC dX9_asMuch_64 rfl ?_
        exact hret _ _ _ _ (by clear h2; omega) rfl (⟨by
          rcases h2 with ⟨q1, q2⟩ | q
          · exact Or.inl ⟨q1, fun j a b => q2 j (by omega) b⟩
          · exact Or.inr q, _, rfl⟩) dX9_asMuch_66
      · refine wp_iload hC dX9_asMuch_20 rfl ?_
        refine wp_if_ge (tgt := 57) hC dX9_asMuch_22 (by decide) (by clear h2; omega) (fun c_22 => ?_) (fun c_22 => ?_)
        · refine wp_aload_n hC dX9_asMuch_57 rfl ?_
          refine wp_geta (k := 1) hC (rfl) (by decide) (rfl) (rfl) (by decide) uX9_asMuch_X9 fX9_asMuch_13 (rfl) dX9_asMuch_58 ?_
          refine wp_iload_n hC dX9_asMuch_61 rfl ?_
          refine wp_iload_n hC dX9_asMuch_62 rfl ?_
          refine wp_iast (n := 24) hC (rfl) (Nat.le_of_ble_eq_true rfl) (rfl) (by decide) (by omega) dX9_asMuch_63 ?_
          refine wp_st (σ2 := S1 σ τ) (by rw [S1_putc rfl, put_id]) ?_
          refine wp_iload hC dX9_asMuch_64 rfl ?_
          exact hret _ _ _ _ (by clear h2; omega) rfl (⟨by
            rcases h2 with ⟨q1, q2⟩ | q
            · exact Or.inl ⟨q1, fun j a b => q2 j (by omega) b⟩
            · exact Or.inr q, _, rfl⟩) dX9_asMuch_66
        · refine wp_aload_n hC dX9_asMuch_25 rfl ?_
          refine wp_geta (k := 1) hC (rfl) (by decide) (rfl) (rfl) (by decide) uX9_asMuch_X9 fX9_asMuch_13 (rfl) dX9_asMuch_26 ?_
          refine wp_iload_n hC dX9_asMuch_29 rfl ?_
          refine wp_iload hC dX9_asMuch_30 rfl ?_
          refine wp_iast (n := 24) hC (rfl) (Nat.le_of_ble_eq_true rfl) (rfl) (by decide) (by omega) dX9_asMuch_32 ?_
          refine wp_st (σ2 := S1 (put σ 2 o k) τ) (by rw [S1_putc rfl, put_put]) ?_
          have hρ : RO (put σ 2 o k) := RO_am h (by clear h2; omega)
          refine wp_aload_n hC dX9_asMuch_33 rfl ?_
          refine wp_iload_n hC dX9_asMuch_34 rfl ?_
          refine wp_iload_n hC dX9_asMuch_35 rfl ?_
          refine wp_callVi (As := [_, _]) hC (c_X9_canBe hG (S1 (put σ 2 o k) τ) hρ (by omega) (by omega)) gX9_asMuch_X9_canBe rfl ⟨rfl, rfl⟩ ⟨by decide, by decide⟩ hyVX9_canBe (rfl) (by decide) (rfl) rfl (Nat.le_of_ble_eq_true rfl) dX9_asMuch_36 (fun x_36 s_36 hx_36 hp_36 => ?_)
          obtain ⟨hb_36, τ1, rfl⟩ := hp_36
          have hb_36 : bP x_36 (CANa σ o B k) := hb_36
          refine wp_if_eq (tgt := 47) hC dX9_asMuch_39 (by decide) (bP_iR hb_36) (fun c_39 => ?_) (fun c_39 => ?_)
          · refine wp_st (σ2 := S1 (put σ 2 o k) τ1) (S1_S1 _ _ _) ?_
            refine wp_bipush hC dX9_asMuch_47 rfl ?_
            refine wp_istore (lv2 := [(0, _), (1, _), (2, _), (3, _), (4, _), (5, _)]) hC dX9_asMuch_49 rfl (by decide) ?_
            refine wp_iinc (lv2 := [(0, _), (1, _), (2, _), (3, _), (4, _), (5, _)]) hC dX9_asMuch_51 rfl rfl (by decide) ?_
            refine wp_goto (tgt := 15) hC dX9_asMuch_54 (by decide) ?_
            exact ih _ (by clear h2; omega) _ _ _ _ rfl (by clear h2; omega) (by omega) (Or.inl ⟨rfl, fun j a b => by
              rcases Int.lt_or_le k j with z | z
              · rcases h2 with ⟨_, h2⟩ | ⟨h2, _⟩
                · exact h2 j z b
                · omega
              · rw [show j = k by omega]; exact bP_0 hb_36 c_39⟩)
          · refine wp_st (σ2 := S1 (put σ 2 o k) τ1) (S1_S1 _ _ _) ?_
            refine wp_iload hC dX9_asMuch_42 rfl ?_
            refine wp_goto (tgt := 49) hC dX9_asMuch_44 (by decide) ?_
            refine wp_istore (lv2 := [(0, _), (1, _), (2, _), (3, _), (4, _), (5, _)]) hC dX9_asMuch_49 rfl (by decide) ?_
            refine wp_iinc (lv2 := [(0, _), (1, _), (2, _), (3, _), (4, _), (5, _)]) hC dX9_asMuch_51 rfl rfl (by decide) ?_
            refine wp_goto (tgt := 15) hC dX9_asMuch_54 (by decide) ?_
            exact ih _ (by clear h2; omega) _ _ _ _ rfl (by clear h2; omega) (by clear h2; omega) (Or.inr ⟨c_17, h1.2, bP_1 hb_36 c_39, fun j a b => by
              rcases h2 with ⟨_, h2⟩ | ⟨h2, _⟩
              · exact h2 j a b
              · omega⟩)
  refine wp_aload_n hC dX9_asMuch_0 rfl ?_
  refine wp_geta (k := 1) hC (rfl) (by decide) (rfl) (rfl) (by decide) uX9_asMuch_X9 fX9_asMuch_13 (rfl) dX9_asMuch_1 ?_
  refine wp_iload_n hC dX9_asMuch_4 rfl ?_
  refine wp_iald (n := 24) hC (rfl) (Nat.le_of_ble_eq_true rfl) (rfl) (by decide) (by omega) dX9_asMuch_5 ?_
  refine wp_istore_n (lv2 := [(0, _), (1, _), (2, _), (3, _)]) hC dX9_asMuch_6 rfl (by decide) ?_
  refine wp_bipush hC dX9_asMuch_7 rfl ?_
  refine wp_istore (lv2 := [(0, _), (1, _), (2, _), (3, _), (4, _)]) hC dX9_asMuch_9 rfl (by decide) ?_
  refine wp_bipush hC dX9_asMuch_11 rfl ?_
  refine wp_istore (lv2 := [(0, _), (1, _), (2, _), (3, _), (4, _), (5, _)]) hC dX9_asMuch_13 rfl (by decide) ?_
  refine wp_st (σ2 := S1 (put σ 2 o (σ 2 o)) σ) (by rw [put_same rfl]; exact (S1_self σ).symm) ?_
  exact L15 _ _ _ _ _ rfl (by omega) (by omega) (Or.inl ⟨rfl, fun j a b => by omega⟩)

theorem hyVX9_could : yX9_could.cls = RX9 ∧ yX9_could.cls ≠ "java/lang/invoke/MethodHandle" ∧ yX9_could.cls ≠ "java/lang/invoke/VarHandle" ∧ (parseMethodDescriptor yX9_could.desc).map (fun d => d.parameters.length) = some 2 := by decide +kernel
set_option maxHeartbeats 4000000 in
set_option maxRecDepth 100000 in
theorem c_X9_could {l : Launch} {G : Gy} (hG : Inj G) (σ : St) {o q : Int} (h : RO σ) (ho : iR o) (hq : iR q) : MI l yX9_could wsX9_could ({ frames := 7, cells := 0, slots := 0, locals := 161 } : Room) G [.ref (G.2.2 0), .int (zI (o)), .int (zI (q))] σ (fun x σ2 => (¬ ((0 ≤ o ∧ o < σ 0 5) ∧ (0 ≤ q ∧ q ≤ 1)) ∧ x = -1 ∧ σ2 = σ) ∨ (((0 ≤ o ∧ o < σ 0 5) ∧ (0 ≤ q ∧ q ≤ 1)) ∧ σ 1 (40 + o) = 2 ∧ x = -5 ∧ σ2 = σ) ∨ (((0 ≤ o ∧ o < σ 0 5) ∧ q = 0) ∧ σ 1 (40 + o) ≠ 2 ∧ ((x = -2 ∧ ∀ j, 0 ≤ j → j < 12 → ¬ CANl σ o (iand (TH σ 1) (ixor (pw o) (-1))) j) ∨ (0 ≤ x ∧ x < 12 ∧ CANl σ o (iand (TH σ 1) (ixor (pw o) (-1))) x ∧ ∀ j, 0 ≤ j → j < x → ¬ CANl σ o (iand (TH σ 1) (ixor (pw o) (-1))) j)) ∧ ∃ τ, σ2 = SC σ τ) ∨ (((0 ≤ o ∧ o < σ 0 5) ∧ q = 1) ∧ σ 1 (40 + o) ≠ 2 ∧ ((x = -2 ∧ ∀ j, 0 < j → j ≤ 60 → ¬ CANa σ o (iand (TH σ 1) (ixor (pw o) (-1))) j) ∨ (0 < x ∧ x ≤ 60 ∧ CANa σ o (iand (TH σ 1) (ixor (pw o) (-1))) x ∧ ∀ j, x < j → j ≤ 60 → ¬ CANa σ o (iand (TH σ 1) (ixor (pw o) (-1))) j)) ∧ ∃ τ, σ2 = SC σ τ)) := by
  refine MI.of hG (by decide +kernel) rfl rfl (Nat.le_of_ble_eq_true rfl) rfl ?_
  intro p e s m args below meth c H0 Q hC hret
  have hn := h.1
  refine wp_aload_n hC dX9_could_0 rfl ?_
  refine wp_iload_n hC dX9_could_1 rfl ?_
  refine wp_callVb (As := [_]) hC (c_X9_isOrder hG _ (by omega) h.1) gX9_could_X9_isOrder rfl ⟨rfl, rfl⟩ ⟨by decide, by decide⟩ hyVX9_isOrder (rfl) (by decide) (rfl) rfl (Nat.le_of_ble_eq_true rfl) dX9_could_2 (fun hx_2 => ?_)
  refine wp_ifb_eq (tgt := 17) hC dX9_could_5 (by decide) (fun c_5 => ?_) (fun c_5 => ?_)
  · refine wp_iconst hC dX9_could_17 ?_
    exact hret _ _ _ _ (by omega) rfl (Or.inl ⟨by omega, rfl, rfl⟩) dX9_could_18
  · refine wp_iload_n hC dX9_could_8 rfl ?_
    refine wp_iconst hC dX9_could_9 ?_
    refine wp_iconst hC dX9_could_10 ?_
    refine wp_callSb (As := [_, _, _]) hC (c_X9_isIn hG _ (by omega) (by omega) (by omega)) gX9_could_X9_isIn rfl ⟨rfl, rfl⟩ ⟨by decide, by decide⟩ hySX9_isIn rfl (Nat.le_of_ble_eq_true rfl) dX9_could_11 (fun hx_11 => ?_)
    refine wp_ifb_ne (tgt := 19) hC dX9_could_14 (by decide) (fun c_14 => ?_) (fun c_14 => ?_)
    · refine wp_aload_n hC dX9_could_19 rfl ?_
      refine wp_iload_n hC dX9_could_20 rfl ?_
      refine wp_iconst hC dX9_could_21 ?_
      refine wp_callVb (As := [_, _]) hC (c_X9_isWhat hG _ (by omega) (by omega) (by have := h.2.1.2.2.1 (40 + o) (by omega) (by omega); omega)) gX9_could_X9_isWhat rfl ⟨rfl, rfl⟩ ⟨by decide, by decide⟩ hyVX9_isWhat (rfl) (by decide) (rfl) rfl (Nat.le_of_ble_eq_true rfl) dX9_could_22 (fun hx_22 => ?_)
      refine wp_ifb_eq (tgt := 31) hC dX9_could_25 (by decide) (fun c_25 => ?_) (fun c_25 => ?_)
      · refine wp_aload_n hC dX9_could_31 rfl ?_
        refine wp_iconst hC dX9_could_32 ?_
        refine wp_callVe (As := [_]) hC (c_X9_those hG _ (by omega) (kI h) h.1) gX9_could_X9_those rfl ⟨rfl, rfl⟩ ⟨by decide, by decide⟩ hyVX9_those (rfl) (by decide) (rfl) rfl (Nat.le_of_ble_eq_true rfl) dX9_could_33 (fun hx_33 => ?_)
        refine wp_iconst hC dX9_could_36 ?_
        refine wp_iload_n hC dX9_could_37 rfl ?_
        refine wp_ishl hC dX9_could_38 ?_
        refine wp_top (b := pw o) (ishl_1 (by omega) (by omega)) ?_
        refine wp_iconst hC dX9_could_39 ?_
        refine wp_ixor hC dX9_could_40 ?_
        refine wp_iand hC dX9_could_41 ?_
        refine wp_top (b := (iand (TH σ 1) (ixor (pw o) (-1)))) rfl ?_
        have hOT := iand_nn (a := TH σ 1) (b := ixor (pw o) (-1)) (bsI h.1)
        refine wp_istore_n (lv2 := [(0, _), (1, _), (2, _), (3, _)]) hC dX9_could_42 rfl (by decide) ?_
        refine wp_iload_n hC dX9_could_43 rfl ?_
        refine wp_if_ne (tgt := 56) hC dX9_could_44 (by decide) (by omega) (fun c_44 => ?_) (fun c_44 => ?_)
        · refine wp_aload_n hC dX9_could_56 rfl ?_
          refine wp_iload_n hC dX9_could_57 rfl ?_
          refine wp_iload_n hC dX9_could_58 rfl ?_
          refine wp_callVi (As := [_, _]) hC (c_X9_asMuch hG _ h (by omega) (by omega)) gX9_could_X9_asMuch rfl ⟨rfl, rfl⟩ ⟨by decide, by decide⟩ hyVX9_asMuch (rfl) (by decide) (rfl) rfl (Nat.le_of_ble_eq_true rfl) dX9_could_59 (fun x_59 s_59 hx_59 hp_59 => ?_)
          exact hret _ _ _ _ (hx_59) rfl (by
            obtain ⟨z1, τ, rfl⟩ := hp_59
            exact Or.inr (Or.inr (Or.inr ⟨⟨c_5, by omega⟩, c_25, z1, _, S1_SC _ _⟩))) dX9_could_62
        · refine wp_aload_n hC dX9_could_47 rfl ?_
          refine wp_iload_n hC dX9_could_48 rfl ?_
          refine wp_iload_n hC dX9_could_49 rfl ?_
          refine wp_callVi (As := [_, _]) hC (c_X9_earliest hG _ h (by omega) (by omega)) gX9_could_X9_earliest rfl ⟨rfl, rfl⟩ ⟨by decide, by decide⟩ hyVX9_earliest (rfl) (by decide) (rfl) rfl (Nat.le_of_ble_eq_true rfl) dX9_could_50 (fun x_50 s_50 hx_50 hp_50 => ?_)
          refine wp_goto (tgt := 62) hC dX9_could_53 (by decide) ?_
          exact hret _ _ _ _ (hx_50) rfl (by
            obtain ⟨z1, τ, rfl⟩ := hp_50
            exact Or.inr (Or.inr (Or.inl ⟨⟨c_5, c_44⟩, c_25, z1, _, S1_SC _ _⟩))) dX9_could_62
      · refine wp_bipush hC dX9_could_28 rfl ?_
        exact hret _ _ _ _ (by omega) rfl (Or.inr (Or.inl ⟨⟨c_5, c_14⟩, c_25, rfl, rfl⟩)) dX9_could_30
    · refine wp_iconst hC dX9_could_17 ?_
      exact hret _ _ _ _ (by omega) rfl (Or.inl ⟨by omega, rfl, rfl⟩) dX9_could_18

theorem hS_last {it la : Int} (h : la ≤ 11) : hS it la (2196 / 169) (2196 / 13 % 13) (2196 % 13) := ⟨Or.inr (by omega), Or.inr (by omega), Or.inr (by omega)⟩

theorem hyVX9_spare : yX9_spare.cls = RX9 ∧ yX9_spare.cls ≠ "java/lang/invoke/MethodHandle" ∧ yX9_spare.cls ≠ "java/lang/invoke/VarHandle" ∧ (parseMethodDescriptor yX9_spare.desc).map (fun d => d.parameters.length) = some 2 := by decide +kernel
set_option maxHeartbeats 4000000 in
set_option maxRecDepth 100000 in
theorem c_X9_spare {l : Launch} {G : Gy} (hG : Inj G) (σ : St) {it la : Int} (h : RO σ) (hi : iR it) (hla : iR la) : MI l yX9_spare wsX9_spare ({ frames := 5, cells := 0, slots := 0, locals := 113 } : Room) G [.ref (G.2.2 0), .int (zI (it)), .int (zI (la))] σ (fun x σ2 => (¬ ((1 ≤ it ∧ it ≤ 7) ∧ (0 ≤ la ∧ la ≤ 11)) ∧ x = -1 ∧ σ2 = σ) ∨ (((1 ≤ it ∧ it ≤ 7) ∧ (0 ≤ la ∧ la ≤ 11)) ∧ ¬ MET σ (tb (TH σ 1)) ∧ x = 0 ∧ ∃ τ, σ2 = SC σ τ) ∨ (((1 ≤ it ∧ it ≤ 7) ∧ (0 ≤ la ∧ la ≤ 11)) ∧ MET σ (tb (TH σ 1)) ∧ ((∃ k, 0 ≤ k ∧ k < 2197 ∧ hS it la (k / 169) (k / 13 % 13) (k % 13) ∧ x = LK σ (tb (TH σ 1)) k) ∧ ∀ k, 0 ≤ k → k < 2197 → hS it la (k / 169) (k / 13 % 13) (k % 13) → x ≤ LK σ (tb (TH σ 1)) k) ∧ ∃ τ, σ2 = SC σ τ)) := by
  refine MI.of hG (by decide +kernel) rfl rfl (Nat.le_of_ble_eq_true rfl) rfl ?_
  intro p e s m args below meth c H0 Q hC hret
  have hn := h.1
  have L45 : ∀ (n : Nat) (k v : Int) (τ : St), ((2197 - k).toNat) = n → (((1 ≤ it ∧ it ≤ 7) ∧ (0 ≤ la ∧ la ≤ 11))) → (MET σ (tb (TH σ 1))) → (SUMS (S1 σ τ)) → (0 ≤ k ∧ k ≤ 2197) → (-1440 ≤ v ∧ v ≤ 2147483647) → (v = 2147483647 ∨ ∃ j, 0 ≤ j ∧ j < k ∧ hS it la (j / 169) (j / 13 % 13) (j % 13) ∧ v = LK σ (tb (TH σ 1)) j) → (∀ j, 0 ≤ j → j < k → hS it la (j / 169) (j / 13 % 13) (j % 13) → v ≤ LK σ (tb (TH σ 1)) j) → wp p l e ({ frames := 5, cells := 0, slots := 0, locals := 113 } : Room) s m args below meth c (aA G (Array.size H0)) H0 6 Q G (S1 σ τ) 45 [(0, .ref (G.2.2 0)), (1, .int (zI (it))), (2, .int (zI (la))), (3, .int (zI (TH σ 1))), (4, .int (zI (v))), (5, .int (zI (k)))] [] := by
    intro n45
    induction n45 using Nat.strongRecOn with
    | ind n45 ih =>
      intro k v τ hm45 g0 g1 hs h1 hv h2 h3
      have hst := fun z : k < 2197 => prt_stp h1.1 z
      have hsr := fun z : k < 2197 => show 0 ≤ stp k ∧ stp k ≤ 121212 by unfold stp; omega
      have hL := fun z : k < 2197 => LK_rng h (tb (TH σ 1)) h1.1 z
      refine wp_iload hC dX9_spare_45 rfl ?_
      refine wp_sipush hC dX9_spare_47 rfl ?_
      refine wp_icmp_ge (tgt := 90) hC dX9_spare_50 (by decide) (by clear h2 h3; omega) (by omega) (fun c_50 => ?_) (fun c_50 => ?_)
      · refine wp_iload hC dX9_spare_90 rfl ?_
        exact hret _ _ _ _ (by clear h2 h3; omega) rfl (by
          have hk : k = 2197 := by clear h2 h3; omega
          subst hk
          have hlast := h3 2196 (by decide) (by decide) (hS_last g0.2.2)
          have hLl := LK_rng h (tb (TH σ 1)) (k := 2196) (by decide) (by decide)
          refine Or.inr (Or.inr ⟨g0, g1, ⟨?_, h3⟩, _, S1_SC _ _⟩)
          rcases h2 with q | q
          · omega
          · obtain ⟨j, a, b, d⟩ := q
            exact ⟨j, a, b, d⟩) dX9_spare_92
      · refine wp_aload_n hC dX9_spare_53 rfl ?_
        refine wp_iload hC dX9_spare_54 rfl ?_
        refine wp_callSe (As := [_]) hC (c_X9_step hG _ (by omega)) gX9_spare_X9_step rfl ⟨rfl, rfl⟩ ⟨by decide, by decide⟩ hySX9_step rfl (Nat.le_of_ble_eq_true rfl) dX9_spare_56 (fun hx_56 => ?_)
        refine wp_iload_n hC dX9_spare_59 rfl ?_
        refine wp_iload_n hC dX9_spare_60 rfl ?_
        refine wp_callVp (As := [_, _, _]) hC (c_X9_holds hG _ (by have := hsr c_50; clear h2 h3; omega) (by clear h2 h3; omega) (by clear h2 h3; omega)) gX9_spare_X9_holds rfl ⟨rfl, rfl⟩ ⟨by decide, by decide⟩ hyVX9_holds (rfl) (by decide) (rfl) rfl (Nat.le_of_ble_eq_true rfl) dX9_spare_61 (fun x_61 hx_61 hp_61 => ?_)
        have hp_61 : bP x_61 (hS it la (k / 169) (k / 13 % 13) (k % 13)) := by rw [(hst c_50).1, (hst c_50).2.1, (hst c_50).2.2] at hp_61; exact hp_61
        refine wp_if_eq (tgt := 84) hC dX9_spare_64 (by decide) (bP_iR hp_61) (fun c_64 => ?_) (fun c_64 => ?_)
        · have hn64 := bP_0 hp_61 c_64
          refine wp_iinc (lv2 := [(0, _), (1, _), (2, _), (3, _), (4, _), (5, _)]) hC dX9_spare_84 rfl rfl (by decide) ?_
          refine wp_goto (tgt := 45) hC dX9_spare_87 (by decide) ?_
          exact ih _ (by clear h2 h3; omega) _ _ _ rfl g0 g1 hs (by clear h2 h3; omega) hv (by
            rcases h2 with q | ⟨j, a, b, d⟩
            · exact Or.inl q
            · exact Or.inr ⟨j, a, by omega, d⟩) (fun j a b d => by
            rcases Int.lt_or_le j k with z | z
            · exact h3 j a z d
            · rw [show j = k by omega] at d; exact absurd d hn64)
        · have hn64 := bP_1 hp_61 c_64
          refine wp_iload hC dX9_spare_67 rfl ?_
          refine wp_aload_n hC dX9_spare_69 rfl ?_
          refine wp_iload hC dX9_spare_70 rfl ?_
          refine wp_callSe (As := [_]) hC (c_X9_step hG _ (by omega)) gX9_spare_X9_step rfl ⟨rfl, rfl⟩ ⟨by decide, by decide⟩ hySX9_step rfl (Nat.le_of_ble_eq_true rfl) dX9_spare_72 (fun hx_72 => ?_)
          refine wp_iload_n hC dX9_spare_75 rfl ?_
          refine wp_callVe (As := [_, _]) hC (c_X9_leftAt hG (S1 σ τ) h hs (bsI h.1) (by have := hsr c_50; clear h2 h3; omega) (fun i a b => by
              have e := hst c_50
              clear h2 h3
              rcases (show i = 0 ∨ i = 1 ∨ i = 2 by omega) with rfl | rfl | rfl
              · rw [e.1]; omega
              · rw [e.2.1]; omega
              · rw [e.2.2]; omega)) gX9_spare_X9_leftAt rfl ⟨rfl, rfl⟩ ⟨by decide, by decide⟩ hyVX9_leftAt (rfl) (by decide) (rfl) rfl (Nat.le_of_ble_eq_true rfl) dX9_spare_76 (fun hx_76 => ?_)
          refine wp_top (b := LK σ (tb (TH σ 1)) k) (by rw [(hst c_50).1, (hst c_50).2.1, (hst c_50).2.2]; rfl) ?_
          have hLk := hL c_50
          refine wp_mmin hC (by decide +kernel) (by decide +kernel) (by decide +kernel) (by decide +kernel) (Nat.le_of_ble_eq_true rfl) (by decide) (by clear h2 h3; omega) (by clear h2 h3; omega) dX9_spare_79 ?_
          refine wp_istore (lv2 := [(0, _), (1, _), (2, _), (3, _), (4, _), (5, _)]) hC dX9_spare_82 rfl (by decide) ?_
          refine wp_iinc (lv2 := [(0, _), (1, _), (2, _), (3, _), (4, _), (5, _)]) hC dX9_spare_84 rfl rfl (by decide) ?_
          refine wp_goto (tgt := 45) hC dX9_spare_87 (by decide) ?_
          exact ih _ (by clear h2 h3; omega) _ _ _ rfl g0 g1 hs (by clear h2 h3; omega) (by clear h2 h3; omega) (by
            rcases Int.lt_or_le v (LK σ (tb (TH σ 1)) k) with z | z
            · rw [Int.min_eq_left (by omega)]
              rcases h2 with q | ⟨j, a, b, d⟩
              · exact Or.inl q
              · exact Or.inr ⟨j, a, by omega, d⟩
            · rw [Int.min_eq_right z]; exact Or.inr ⟨k, h1.1, by omega, hn64, rfl⟩) (fun j a b d => by
            rcases Int.lt_or_le j k with z | z
            · have := h3 j a z d; omega
            · rw [show j = k by omega]; omega)
  refine wp_iload_n hC dX9_spare_0 rfl ?_
  refine wp_iconst hC dX9_spare_1 ?_
  refine wp_bipush hC dX9_spare_2 rfl ?_
  refine wp_callSb (As := [_, _, _]) hC (c_X9_isIn hG _ (by omega) (by omega) (by omega)) gX9_spare_X9_isIn rfl ⟨rfl, rfl⟩ ⟨by decide, by decide⟩ hySX9_isIn rfl (Nat.le_of_ble_eq_true rfl) dX9_spare_4 (fun hx_4 => ?_)
  refine wp_ifb_eq (tgt := 20) hC dX9_spare_7 (by decide) (fun c_7 => ?_) (fun c_7 => ?_)
  · refine wp_iconst hC dX9_spare_20 ?_
    exact hret _ _ _ _ (by omega) rfl (Or.inl ⟨by omega, rfl, rfl⟩) dX9_spare_21
  · refine wp_iload_n hC dX9_spare_10 rfl ?_
    refine wp_iconst hC dX9_spare_11 ?_
    refine wp_bipush hC dX9_spare_12 rfl ?_
    refine wp_callSb (As := [_, _, _]) hC (c_X9_isIn hG _ (by omega) (by omega) (by omega)) gX9_spare_X9_isIn rfl ⟨rfl, rfl⟩ ⟨by decide, by decide⟩ hySX9_isIn rfl (Nat.le_of_ble_eq_true rfl) dX9_spare_14 (fun hx_14 => ?_)
    refine wp_ifb_ne (tgt := 22) hC dX9_spare_17 (by decide) (fun c_17 => ?_) (fun c_17 => ?_)
    · refine wp_aload_n hC dX9_spare_22 rfl ?_
      refine wp_iconst hC dX9_spare_23 ?_
      refine wp_callVe (As := [_]) hC (c_X9_those hG _ (by omega) (kI h) h.1) gX9_spare_X9_those rfl ⟨rfl, rfl⟩ ⟨by decide, by decide⟩ hyVX9_those (rfl) (by decide) (rfl) rfl (Nat.le_of_ble_eq_true rfl) dX9_spare_24 (fun hx_24 => ?_)
      refine wp_top (b := TH σ 1) rfl ?_
      refine wp_istore_n (lv2 := [(0, _), (1, _), (2, _), (3, _)]) hC dX9_spare_27 rfl (by decide) ?_
      refine wp_aload_n hC dX9_spare_28 rfl ?_
      refine wp_iload_n hC dX9_spare_29 rfl ?_
      refine wp_callVi (As := [_]) hC (c_X9_isMet hG _ h (bsI h.1)) gX9_spare_X9_isMet rfl ⟨rfl, rfl⟩ ⟨by decide, by decide⟩ hyVX9_isMet (rfl) (by decide) (rfl) rfl (Nat.le_of_ble_eq_true rfl) dX9_spare_30 (fun x_30 s_30 hx_30 hp_30 => ?_)
      obtain ⟨hb_30, hf_30⟩ := hp_30
      obtain ⟨k9, τ9, hf9, rfl, -, -, hs9⟩ := hf_30
      have hsm : SUMS (S1 σ τ9) := hs9
      refine wp_if_ne (tgt := 38) hC dX9_spare_33 (by decide) (bP_iR hb_30) (fun c_33 => ?_) (fun c_33 => ?_)
      · refine wp_ldc (n := 2147483647) hC dX9_spare_38 (by decide +kernel) ?_
        refine wp_istore (lv2 := [(0, _), (1, _), (2, _), (3, _), (4, _)]) hC dX9_spare_40 rfl (by decide) ?_
        refine wp_iconst hC dX9_spare_42 ?_
        refine wp_istore (lv2 := [(0, _), (1, _), (2, _), (3, _), (4, _), (5, _)]) hC dX9_spare_43 rfl (by decide) ?_
        exact L45 _ _ _ _ rfl ⟨c_7, c_17⟩ (bP_1 hb_30 c_33) hsm (by omega) (by omega) (Or.inl rfl) (fun j a b => by omega)
      · refine wp_iconst hC dX9_spare_36 ?_
        exact hret _ _ _ _ (by omega) rfl (Or.inr (Or.inl ⟨⟨c_7, c_17⟩, bP_0 hb_30 c_33, rfl, _, S1_SC _ _⟩)) dX9_spare_37
    · refine wp_iconst hC dX9_spare_20 ?_
      exact hret _ _ _ _ (by omega) rfl (Or.inl ⟨by omega, rfl, rfl⟩) dX9_spare_21
